set_option maxRecDepth 100000 in
set_option maxHeartbeats 4000000 in
theorem e_X0_typeBitsX (l : Launch) (dC : Nat → ClassId) (dI : Nat → Nat → Nat) (dA : Nat → ClassId) (κ : Nat → Nat) (B : Nat) (g : Nat → Nat → Int) (cq : Nat) (hcq : cq < 14) (h0 : Nat) (k0 : κ h0 = 320 + cq) : Met l yX0_typeBits wsX0_typeBits ({ frames := 2, cells := 0, slots := 0, locals := 42 } : Room) (he_Pre dC dI dA κ B g [Value.ref h0]) (he_Qi dC dI dA κ B (fun r u => g = u ∧ r = hb_tb (fun t => decide (t ≠ 0) && decide (g (340 + cq) t ≠ -1)) 9)) 0 0 (hp_A B) := by
  refine Met.ofW (cc := cX0_typeBits) (maxL := 3) (ret := (some .int)) (by decide) rfl ?_
  intro p e s m args below meth c s₁ Bd hml hv
  obtain ⟨rfl, hK, hN, hW, hF⟩ := hv
  have hx := Bd.exec
  have hb := Bd.bytes
  have hr := Bd.returns
  have hts := atoms_spec (ws := wsX0_typeBits) Bd.pre
  have hown : s.vm.findClass RX0 = some m.cls := findClass_of_methodNamed Bd.named
  have hlocks := Bd.notSynchronized
  have hJ : he_J dC dI dA κ B g s.heap s.heap [] := ⟨hF, va_S.rf⟩
  have hl := lv_entry ([Value.ref h0]) (n := 3) (Nat.le_of_ble_eq_true rfl)
  rw [lg_entry_eq]
  generalize (lg_sl ([Value.ref h0]) ++ List.replicate (3 - (lg_sl ([Value.ref h0])).length) Slot.unset).toArray = ls at hl ⊢
  have hl : lv_has ls 3 [(0, .ref h0)] := hl
  refine hq_iconst hx hb dX0_typeBits_0 (by decide) (by decide) (fun z1 ez1 => ?_)
  refine lv_istore_n (lv' := [(1, .int z1), (0, .ref h0)]) hx hb dX0_typeBits_1 rfl hl (by decide) rfl (fun ls hl => ?_)
  refine hq_iconst hx hb dX0_typeBits_2 (by decide) (by decide) (fun z2 ez2 => ?_)
  refine lv_istore_n (lv' := [(2, .int z2), (1, .int z1), (0, .ref h0)]) hx hb dX0_typeBits_3 rfl hl (by decide) rfl (fun ls hl => ?_)
  have lp5 : ∀ (nlp5 : Nat) (v3 : Int32) (v4 : Int32) (H : Heap) (locs : List Loc) (ls : Array Slot), (1 ≤ v4.toInt) → (v4.toInt ≤ 9) → (v3 = hb_tb (fun t => decide (t ≠ 0) && decide (g (340 + cq) t ≠ -1)) v4.toInt.toNat) → (10 - v4.toInt < (nlp5 : Int)) → he_J dC dI dA κ B g s.heap H locs → lv_has ls 3 [(0, .ref h0), (1, .int v3), (2, .int v4)] → W p l e (headSpec wsX0_typeBits ({ frames := 2, cells := 0, slots := 0, locals := 42 } : Room)).room s m ([Value.ref h0] : List Value).toArray below meth c H locs 0 0 (MQ below (he_Qi dC dI dA κ B (fun r u => g = u ∧ r = hb_tb (fun t => decide (t ≠ 0) && decide (g (340 + cq) t ≠ -1)) 9)) ([Value.ref h0] : List Value).toArray s 0 0 (hp_A B)) (F0 m 4 ls []) := by
    intro nlp5
    induction nlp5 with
    | zero => intro v3 v4 H locs ls iv7 iv8 iv9 hm6 hJ hl; exact absurd hm6 (by omega)
    | succ nlp5 ihlp5 =>
      intro v3 v4 H locs ls iv7 iv8 iv9 hm6 hJ hl
      refine lv_iload_n hx hb dX0_typeBits_4 rfl (lv_at hl 2 rfl) ?_
      refine hq_bipush hx hb dX0_typeBits_5 (by decide) (fun z10 ez10 => ?_)
      refine hq_icmp_gt (tgt := 30) hx hb dX0_typeBits_7 (by decide) (fun c11 => ?_) (fun c11 => ?_)
      · refine lv_iload_n hx hb dX0_typeBits_30 rfl (lv_at hl 1 rfl) ?_
        exact he_iret hx hb hK hN hW hlocks hJ hr ⟨rfl, by have h9 := iv9; rw [show v4.toInt.toNat = 9 by omega] at h9; exact h9⟩ dX0_typeBits_31
      · refine lv_aload_n hx hb dX0_typeBits_10 rfl (lv_at hl 0 rfl) ?_
        refine lv_iload_n hx hb dX0_typeBits_11 rfl (lv_at hl 2 rfl) ?_
        refine he_calli (va_runV (As := [.int v4]) (rest := []) ⟨hx, hb, hml, hown, hts⟩ (e_X0_has l dC dI dA κ B g (cq) (by omega) h0 k0 v4) (cwV 1 hts gX0_typeBits_X0_has rfl rfl rfl (by decide +kernel) ⟨Nat.le_of_ble_eq_true rfl, Nat.le_of_ble_eq_true rfl⟩) (he_preV (q := (RX0, TX0, 2)) [.int v4] hK hN hW hJ k0 (hk_t320 (by omega)) rfl) rfl rfl hl.1 rfl (lv_room (Nat.le_of_ble_eq_true rfl)) dX0_typeBits_12 ⟨Nat.zero_le _, Nat.zero_le _⟩) hJ (fun x13 g12 H locs hp hJ => ?_)
        obtain ⟨rfl, f14⟩ := hp
        refine hq_if_eq (tgt := 24) hx hb dX0_typeBits_15 (by decide) (fun c15 => ?_) (fun c15 => ?_)
        · have htb : v3 = hb_tb (fun t => decide (t ≠ 0) && decide (g (340 + cq) t ≠ -1)) (v4.toInt.toNat + 1) := by
            rw [hb_tb_f (by show (decide _ && decide _) = false; rw [decide_eq_false (p := g (340 + cq) v4.toInt.toNat ≠ -1) (by omega), Bool.and_false])]
            exact iv9
          refine hq_iinc (k := 2) (lv' := fun (z9 : Int32) => [(2, .int z9), (0, .ref h0), (1, .int v3)]) hx hb dX0_typeBits_24 hl rfl (by decide) (by decide) (by omega) (by omega) (by decide) (fun _ => rfl) (fun x16 ls ex16 hl => ?_)
          have hl : lv_has ls 3 [(2, .int x16), (0, .ref h0), (1, .int v3)] := hl
          refine lv_goto (tgt := 4) hx hb dX0_typeBits_27 (by decide) ?_
          exact ihlp5 v3 x16 _ _ ls (by omega) (by omega) (by rw [show x16.toInt.toNat = v4.toInt.toNat + 1 by omega]; exact htb) (by omega) hJ (lv_sub hl [1, 2, 0] rfl)
        · refine lv_iload_n hx hb dX0_typeBits_18 rfl (lv_at hl 1 rfl) ?_
          refine hq_iconst hx hb dX0_typeBits_19 (by decide) (by decide) (fun z17 ez17 => ?_)
          refine lv_iload_n hx hb dX0_typeBits_20 rfl (lv_at hl 2 rfl) ?_
          refine hq_ishlE hx hb dX0_typeBits_21 (fun x18 ex18 => ?_)
          refine hq_iorE hx hb dX0_typeBits_22 (fun x19 ex19 => ?_)
          refine lv_istore_n (lv' := [(1, .int x19), (0, .ref h0), (2, .int v4)]) hx hb dX0_typeBits_23 rfl hl (by decide) rfl (fun ls hl => ?_)
          have hv4 : Int32.ofNat v4.toInt.toNat = v4 := hi_eq.mpr (by rw [show (Int32.ofNat v4.toInt.toNat).toInt = ((v4.toInt.toNat : Nat) : Int) from nI_toInt (by omega)]; omega)
          have htb : x19 = hb_tb (fun t => decide (t ≠ 0) && decide (g (340 + cq) t ≠ -1)) (v4.toInt.toNat + 1) := by
            rw [hb_tb_t (by show (decide _ && decide _) = true; rw [decide_eq_true (p := v4.toInt.toNat ≠ 0) (by omega), decide_eq_true (p := g (340 + cq) v4.toInt.toNat ≠ -1) (by omega)]; rfl), hv4, ← iv9, ex19, ex18, show z17 = 1 from hi_eq.mpr (by rw [ez17]; rfl)]
          refine hq_iinc (k := 2) (lv' := fun (z9 : Int32) => [(2, .int z9), (1, .int x19), (0, .ref h0)]) hx hb dX0_typeBits_24 hl rfl (by decide) (by decide) (by omega) (by omega) (by decide) (fun _ => rfl) (fun x20 ls ex20 hl => ?_)
          have hl : lv_has ls 3 [(2, .int x20), (1, .int x19), (0, .ref h0)] := hl
          refine lv_goto (tgt := 4) hx hb dX0_typeBits_27 (by decide) ?_
          exact ihlp5 x19 x20 _ _ ls (by omega) (by omega) (by rw [show x20.toInt.toNat = v4.toInt.toNat + 1 by omega]; exact htb) (by omega) hJ (lv_sub hl [2, 1, 0] rfl)
  exact lp5 ((10 - z2.toInt).toNat + 1) z1 z2 _ _ ls (by omega) (by omega) (by rw [show z2.toInt.toNat = 1 by omega, show z1 = 0 from hi_eq.mpr (by rw [ez1]; rfl)]; rfl) (by omega) hJ (lv_sub hl [2, 1, 0] rfl)
set_option maxRecDepth 100000 in
set_option maxHeartbeats 4000000 in
theorem e_X2_tellAboutX (l : Launch) (dC : Nat → ClassId) (dI : Nat → Nat → Nat) (dA : Nat → ClassId) (κ : Nat → Nat) (B : Nat) (g : Nat → Nat → Int) (nj : Nat) (hnj : nj < 12) (h0 : Nat) (k0 : κ h0 = 300 + nj) (what : Int32) : Met l yX2_tellAbout wsX2_tellAbout ({ frames := 3, cells := 0, slots := 0, locals := 64 } : Room) (he_Pre dC dI dA κ B g [Value.ref h0, Value.int what]) (he_Qi dC dI dA κ B (fun r u => g = u ∧ r.toInt = (if what.toInt = 0 then g (300 + nj) 1 else if what.toInt = 1 then g (300 + nj) 2 else if what.toInt = 2 then g (300 + nj) 3 else if what.toInt = 3 then (hb_tb (fun t => decide (t ≠ 0) && decide (g (340 + (g (300 + nj) 0 - 320).toNat) t ≠ -1)) 9).toInt else -1))) 0 0 (hp_A B) := by
  refine Met.ofW (cc := cX2_tellAbout) (maxL := 2) (ret := (some .int)) (by decide) rfl ?_
  intro p e s m args below meth c s₁ Bd hml hv
  obtain ⟨rfl, hK, hN, hW, hF⟩ := hv
  have hx := Bd.exec
  have hb := Bd.bytes
  have hr := Bd.returns
  have hts := atoms_spec (ws := wsX2_tellAbout) Bd.pre
  have hown : s.vm.findClass RX2 = some m.cls := findClass_of_methodNamed Bd.named
  have hlocks := Bd.notSynchronized
  have hJ : he_J dC dI dA κ B g s.heap s.heap [] := ⟨hF, va_S.rf⟩
  have hl := lv_entry ([Value.ref h0, Value.int what]) (n := 2) (Nat.le_of_ble_eq_true rfl)
  rw [lg_entry_eq]
  generalize (lg_sl ([Value.ref h0, Value.int what]) ++ List.replicate (2 - (lg_sl ([Value.ref h0, Value.int what])).length) Slot.unset).toArray = ls at hl ⊢
  have hl : lv_has ls 2 [(0, .ref h0), (1, .int what)] := hl
  refine lv_iload_n hx hb dX2_tellAbout_0 rfl (lv_at hl 1 rfl) ?_
  have h1 : (what.toInt < 0 ∨ 3 < what.toInt) ∨ what.toInt = 0 ∨ what.toInt = 1 ∨ what.toInt = 2 ∨ what.toInt = 3 := by omega
  rcases h1 with h1 | h1 | h1 | h1 | h1
  · refine lv_tableOut (tgt := 55) hx hb dX2_tellAbout_1 h1 (by decide) ?_
    refine hq_iconst hx hb dX2_tellAbout_55 (by decide) (by decide) (fun z2 ez2 => ?_)
    exact he_iret hx hb hK hN hW hlocks hJ hr ⟨rfl, by rw [if_neg (by omega), if_neg (by omega), if_neg (by omega), if_neg (by omega)]; omega⟩ dX2_tellAbout_56
  · refine lv_tableIn (off := 31) (tgt := 32) hx hb dX2_tellAbout_1 (by omega) (by omega) (by rw [h1]; rfl) (by decide) ?_
    refine lv_aload_n hx hb dX2_tellAbout_32 rfl (lv_at hl 0 rfl) ?_
    refine he_geti (C := RX2) (T := TX2) (N := 4) (ci := 2) (kd := 300 + nj) hx hb hts iX2_tellAbout_X2 hown hK hJ k0 (hk_t300 (by omega)) rfl 1 (by decide) (hts (.fieldLink RX2 18 "NeighborBook$Neighbor" "port" "I") (List.mem_of_getElem? (i := 1) rfl)) (fun _ h9 => h9) (he_s300 (by omega) 1) rfl dX2_tellAbout_33 (fun x3 ex3 => ?_)
    have ex3 : x3.toInt = g (300 + nj) 1 ∧ 0 ≤ x3.toInt ∧ x3.toInt ≤ 3 := ex3
    exact he_iret hx hb hK hN hW hlocks hJ hr ⟨rfl, by rw [if_pos (by omega)]; omega⟩ dX2_tellAbout_36
  · refine lv_tableIn (off := 36) (tgt := 37) hx hb dX2_tellAbout_1 (by omega) (by omega) (by rw [h1]; rfl) (by decide) ?_
    refine lv_aload_n hx hb dX2_tellAbout_37 rfl (lv_at hl 0 rfl) ?_
    refine he_geti (C := RX2) (T := TX2) (N := 4) (ci := 2) (kd := 300 + nj) hx hb hts iX2_tellAbout_X2 hown hK hJ k0 (hk_t300 (by omega)) rfl 2 (by decide) (hts (.fieldLink RX2 25 "NeighborBook$Neighbor" "ticksLeft" "I") (List.mem_of_getElem? (i := 2) rfl)) (fun _ h9 => h9) (he_s300 (by omega) 2) rfl dX2_tellAbout_38 (fun x4 ex4 => ?_)
    have ex4 : x4.toInt = g (300 + nj) 2 := ex4
    exact he_iret hx hb hK hN hW hlocks hJ hr ⟨rfl, by rw [if_neg (by omega), if_pos (by omega)]; omega⟩ dX2_tellAbout_41
  · refine lv_tableIn (off := 41) (tgt := 42) hx hb dX2_tellAbout_1 (by omega) (by omega) (by rw [h1]; rfl) (by decide) ?_
    refine lv_aload_n hx hb dX2_tellAbout_42 rfl (lv_at hl 0 rfl) ?_
    refine he_geti (C := RX2) (T := TX2) (N := 4) (ci := 2) (kd := 300 + nj) hx hb hts iX2_tellAbout_X2 hown hK hJ k0 (hk_t300 (by omega)) rfl 3 (by decide) (hts (.fieldLink RX2 22 "NeighborBook$Neighbor" "frames" "I") (List.mem_of_getElem? (i := 3) rfl)) (fun _ h9 => h9) (he_s300 (by omega) 3) rfl dX2_tellAbout_43 (fun x5 ex5 => ?_)
    have ex5 : x5.toInt = g (300 + nj) 3 := ex5
    exact he_iret hx hb hK hN hW hlocks hJ hr ⟨rfl, by rw [if_neg (by omega), if_neg (by omega), if_pos (by omega)]; omega⟩ dX2_tellAbout_46
  · refine lv_tableIn (off := 46) (tgt := 47) hx hb dX2_tellAbout_1 (by omega) (by omega) (by rw [h1]; rfl) (by decide) ?_
    refine lv_aload_n hx hb dX2_tellAbout_47 rfl (lv_at hl 0 rfl) ?_
    refine he_getc (C := RX2) (T := TX2) (N := 4) (ci := 2) (kd := 300 + nj) hx hb hts iX2_tellAbout_X2 hown hK hJ k0 (hk_t300 (by omega)) rfl 0 (by decide) (hts (.fieldLink RX2 12 "NeighborBook$Neighbor" "contents" "LNeighborBook$Contents;") (List.mem_of_getElem? (i := 4) rfl)) (fun _ h9 => h9) (he_s300 (by omega) 0) dX2_tellAbout_48 (fun b6 c7 hc7 kb6 ec7 => ?_)
    have ec7 : g (300 + nj) 0 = 320 + (c7 : Int) := ec7
    refine he_calli (va_runV (As := []) (rest := []) ⟨hx, hb, hml, hown, hts⟩ (e_X0_typeBitsX l dC dI dA κ B g (c7) (by omega) b6 kb6) (cwV 0 hts gX2_tellAbout_X0_typeBits rfl rfl rfl (by decide +kernel) ⟨Nat.le_of_ble_eq_true rfl, Nat.le_of_ble_eq_true rfl⟩) (he_preV (q := (RX0, TX0, 2)) [] hK hN hW hJ kb6 (hk_t320 (by omega)) rfl) rfl rfl hl.1 rfl (lv_room (Nat.le_of_ble_eq_true rfl)) dX2_tellAbout_51 ⟨Nat.zero_le _, Nat.zero_le _⟩) hJ (fun x9 g8 H locs hp hJ => ?_)
    obtain ⟨rfl, f10⟩ := hp
    exact he_iret hx hb hK hN hW hlocks hJ hr ⟨rfl, by rw [if_neg (by omega), if_neg (by omega), if_neg (by omega), if_pos (by omega), f10, show (g (300 + nj) 0 - 320).toNat = c7 by omega]⟩ dX2_tellAbout_54
set_option maxRecDepth 100000 in
set_option maxHeartbeats 4000000 in
theorem e_X6_neighborX (l : Launch) (dC : Nat → ClassId) (dI : Nat → Nat → Nat) (dA : Nat → ClassId) (κ : Nat → Nat) (B : Nat) (g : Nat → Nat → Int) (h0 : Nat) (k0 : κ h0 = 1) (i : Int32) (what : Int32) (h03 : ∀ r ∈ hc_tab g, ∀ q : hR, r = q → hc_03 q.2.2.2) : Met l yX6_neighbor wsX6_neighbor ({ frames := 4, cells := 0, slots := 0, locals := 85 } : Room) (he_Pre dC dI dA κ B g [Value.ref h0, Value.int i, Value.int what]) (he_Qi dC dI dA κ B (fun r u => g = u ∧ r.toInt = hr_nb (hc_tab g) i.toInt what.toInt)) 0 0 (hp_A B) := by
  refine Met.ofW (cc := cX6_neighbor) (maxL := 3) (ret := (some .int)) (by decide) rfl ?_
  intro p e s m args below meth c s₁ Bd hml hv
  obtain ⟨rfl, hK, hN, hW, hF⟩ := hv
  have hx := Bd.exec
  have hb := Bd.bytes
  have hr := Bd.returns
  have hts := atoms_spec (ws := wsX6_neighbor) Bd.pre
  have hown : s.vm.findClass RX6 = some m.cls := findClass_of_methodNamed Bd.named
  have hlocks := Bd.notSynchronized
  have hJ : he_J dC dI dA κ B g s.heap s.heap [] := ⟨hF, va_S.rf⟩
  have hl := lv_entry ([Value.ref h0, Value.int i, Value.int what]) (n := 3) (Nat.le_of_ble_eq_true rfl)
  rw [lg_entry_eq]
  generalize (lg_sl ([Value.ref h0, Value.int i, Value.int what]) ++ List.replicate (3 - (lg_sl ([Value.ref h0, Value.int i, Value.int what])).length) Slot.unset).toArray = ls at hl ⊢
  have hl : lv_has ls 3 [(0, .ref h0), (1, .int i), (2, .int what)] := hl
  have hlen : (hc_tab g).length = (g 10 1).toNat := hc_tab_len g
  refine lv_aload_n hx hb dX6_neighbor_0 rfl (lv_at hl 0 rfl) ?_
  refine he_getr (C := RX6) (T := TX6) (N := 12) (ci := 6) (kd := 1) hx hb hts iX6_neighbor_X6 hown hK hJ k0 rfl rfl 4 (by decide) (hts (.fieldLink RX6 29 "NeighborBook" "known" "LNeighborBook$Neighbors;") (List.mem_of_getElem? (i := 1) rfl)) (fun _ h9 => h9) rfl dX6_neighbor_1 (fun b1 kb1 => ?_)
  refine lv_iload_n hx hb dX6_neighbor_4 rfl (lv_at hl 1 rfl) ?_
  refine he_calli (va_runV (As := [.int i]) (rest := []) ⟨hx, hb, hml, hown, hts⟩ (e_X3_has l dC dI dA κ B g b1 kb1 i) (cwV 1 hts gX6_neighbor_X3_has rfl rfl rfl (by decide +kernel) ⟨Nat.le_of_ble_eq_true rfl, Nat.le_of_ble_eq_true rfl⟩) (he_preV (q := (RX3, TX3, 2)) [.int i] hK hN hW hJ kb1 rfl rfl) rfl rfl hl.1 rfl (lv_room (Nat.le_of_ble_eq_true rfl)) dX6_neighbor_5 ⟨Nat.zero_le _, Nat.zero_le _⟩) hJ (fun x3 g2 H locs hp hJ => ?_)
  obtain ⟨rfl, f4⟩ := hp
  refine hq_if_ne (tgt := 13) hx hb dX6_neighbor_8 (by decide) (fun c5 => ?_) (fun c5 => ?_)
  · refine lv_aload_n hx hb dX6_neighbor_13 rfl (lv_at hl 0 rfl) ?_
    refine he_getr (C := RX6) (T := TX6) (N := 12) (ci := 6) (kd := 1) hx hb hts iX6_neighbor_X6 hown hK hJ k0 rfl rfl 4 (by decide) (hts (.fieldLink RX6 29 "NeighborBook" "known" "LNeighborBook$Neighbors;") (List.mem_of_getElem? (i := 1) rfl)) (fun _ h9 => h9) rfl dX6_neighbor_14 (fun b6 kb6 => ?_)
    refine lv_iload_n hx hb dX6_neighbor_17 rfl (lv_at hl 1 rfl) ?_
    refine he_callr (va_runV (As := [.int i]) (rest := []) ⟨hx, hb, hml, hown, hts⟩ (e_X3_at l dC dI dA κ B g b6 kb6 i (by omega) (by omega)) (cwV 1 hts gX6_neighbor_X3_at rfl rfl rfl (by decide +kernel) ⟨Nat.le_of_ble_eq_true rfl, Nat.le_of_ble_eq_true rfl⟩) (he_preV (q := (RX3, TX3, 2)) [.int i] hK hN hW hJ kb6 rfl rfl) rfl rfl hl.1 rfl (lv_room (Nat.le_of_ble_eq_true rfl)) dX6_neighbor_18 ⟨Nat.zero_le _, Nat.zero_le _⟩) hJ (fun b8 g7 H locs kb8 hp hJ => ?_)
    obtain ⟨rfl, f10⟩ := hp
    obtain ⟨j9, hj9, ej9⟩ : ∃ j9 : Nat, j9 < 12 ∧ (g 16 i.toInt.toNat) = 300 + (j9 : Int) := ⟨((g 16 i.toInt.toNat) - 300).toNat, by omega, by omega⟩
    have kb8 : κ b8 = 300 + j9 := by rw [kb8]; omega
    refine lv_iload_n hx hb dX6_neighbor_21 rfl (lv_at hl 2 rfl) ?_
    refine he_calli (va_runV (As := [.int what]) (rest := []) ⟨hx, hb, hml, hown, hts⟩ (e_X2_tellAboutX l dC dI dA κ B g (j9) (by omega) b8 kb8 what) (cwV 1 hts gX6_neighbor_X2_tellAbout rfl rfl rfl (by decide +kernel) ⟨Nat.le_of_ble_eq_true rfl, Nat.le_of_ble_eq_true rfl⟩) (he_preV (q := (RX2, TX2, 4)) [.int what] hK hN hW hJ kb8 (hk_t300 (by omega)) rfl) rfl rfl hl.1 rfl (lv_room (Nat.le_of_ble_eq_true rfl)) dX6_neighbor_22 ⟨Nat.zero_le _, Nat.zero_le _⟩) hJ (fun x12 g11 H locs hp hJ => ?_)
    obtain ⟨rfl, f13⟩ := hp
    exact he_iret hx hb hK hN hW hlocks hJ hr ⟨rfl, by
      have hil : i.toInt.toNat < (hc_tab g).length := by rw [hlen]; omega
      rw [hr_nb_at (by omega) hil, hc_tab_get, show (g 16 i.toInt.toNat - 300).toNat = j9 by omega, f13, hb_tb_cg (f' := hb_f (hc_row g j9).2.2.2) (fun t ht => hb_f_c (h03 _ (List.getElem_mem hil) _ (by rw [hc_tab_get, show (g 16 i.toInt.toNat - 300).toNat = j9 by omega])) ht)]
      rfl⟩ dX6_neighbor_25
  · refine hq_iconst hx hb dX6_neighbor_11 (by decide) (by decide) (fun z14 ez14 => ?_)
    exact he_iret hx hb hK hN hW hlocks hJ hr ⟨rfl, by rw [hr_nb_no (by rw [hlen]; omega)]; omega⟩ dX6_neighbor_12
set_option maxRecDepth 100000 in
set_option maxHeartbeats 4000000 in
theorem e_X6_contentX (l : Launch) (dC : Nat → ClassId) (dI : Nat → Nat → Nat) (dA : Nat → ClassId) (κ : Nat → Nat) (B : Nat) (g : Nat → Nat → Int) (h0 : Nat) (k0 : κ h0 = 1) (i : Int32) (type : Int32) (k : Int32) (h03 : ∀ r ∈ hc_tab g, ∀ q : hR, r = q → hc_03 q.2.2.2) : Met l yX6_content wsX6_content ({ frames := 2, cells := 0, slots := 0, locals := 43 } : Room) (he_Pre dC dI dA κ B g [Value.ref h0, Value.int i, Value.int type, Value.int k]) (he_Qi dC dI dA κ B (fun r u => g = u ∧ r.toInt = hr_ct (hc_tab g) i.toInt type.toInt k.toInt)) 0 0 (hp_A B) := by
  refine Met.ofW (cc := cX6_content) (maxL := 5) (ret := (some .int)) (by decide) rfl ?_
  intro p e s m args below meth c s₁ Bd hml hv
  obtain ⟨rfl, hK, hN, hW, hF⟩ := hv
  have hx := Bd.exec
  have hb := Bd.bytes
  have hr := Bd.returns
  have hts := atoms_spec (ws := wsX6_content) Bd.pre
  have hown : s.vm.findClass RX6 = some m.cls := findClass_of_methodNamed Bd.named
  have hlocks := Bd.notSynchronized
  have hJ : he_J dC dI dA κ B g s.heap s.heap [] := ⟨hF, va_S.rf⟩
  have hl := lv_entry ([Value.ref h0, Value.int i, Value.int type, Value.int k]) (n := 5) (Nat.le_of_ble_eq_true rfl)
  rw [lg_entry_eq]
  generalize (lg_sl ([Value.ref h0, Value.int i, Value.int type, Value.int k]) ++ List.replicate (5 - (lg_sl ([Value.ref h0, Value.int i, Value.int type, Value.int k])).length) Slot.unset).toArray = ls at hl ⊢
  have hl : lv_has ls 5 [(0, .ref h0), (1, .int i), (2, .int type), (3, .int k)] := hl
  have hlen : (hc_tab g).length = (g 10 1).toNat := hc_tab_len g
  refine lv_aload_n hx hb dX6_content_0 rfl (lv_at hl 0 rfl) ?_
  refine he_getr (C := RX6) (T := TX6) (N := 12) (ci := 6) (kd := 1) hx hb hts iX6_content_X6 hown hK hJ k0 rfl rfl 4 (by decide) (hts (.fieldLink RX6 29 "NeighborBook" "known" "LNeighborBook$Neighbors;") (List.mem_of_getElem? (i := 1) rfl)) (fun _ h9 => h9) rfl dX6_content_1 (fun b1 kb1 => ?_)
  refine lv_iload_n hx hb dX6_content_4 rfl (lv_at hl 1 rfl) ?_
  refine he_calli (va_runV (As := [.int i]) (rest := []) ⟨hx, hb, hml, hown, hts⟩ (e_X3_has l dC dI dA κ B g b1 kb1 i) (cwV 1 hts gX6_content_X3_has rfl rfl rfl (by decide +kernel) ⟨Nat.le_of_ble_eq_true rfl, Nat.le_of_ble_eq_true rfl⟩) (he_preV (q := (RX3, TX3, 2)) [.int i] hK hN hW hJ kb1 rfl rfl) rfl rfl hl.1 rfl (lv_room (Nat.le_of_ble_eq_true rfl)) dX6_content_5 ⟨Nat.zero_le _, Nat.zero_le _⟩) hJ (fun x3 g2 H locs hp hJ => ?_)
  obtain ⟨rfl, f4⟩ := hp
  refine hq_if_ne (tgt := 13) hx hb dX6_content_8 (by decide) (fun c5 => ?_) (fun c5 => ?_)
  · refine lv_aload_n hx hb dX6_content_13 rfl (lv_at hl 0 rfl) ?_
    refine he_getr (C := RX6) (T := TX6) (N := 12) (ci := 6) (kd := 1) hx hb hts iX6_content_X6 hown hK hJ k0 rfl rfl 4 (by decide) (hts (.fieldLink RX6 29 "NeighborBook" "known" "LNeighborBook$Neighbors;") (List.mem_of_getElem? (i := 1) rfl)) (fun _ h9 => h9) rfl dX6_content_14 (fun b6 kb6 => ?_)
    refine lv_iload_n hx hb dX6_content_17 rfl (lv_at hl 1 rfl) ?_
    refine he_callr (va_runV (As := [.int i]) (rest := []) ⟨hx, hb, hml, hown, hts⟩ (e_X3_at l dC dI dA κ B g b6 kb6 i (by omega) (by omega)) (cwV 1 hts gX6_content_X3_at rfl rfl rfl (by decide +kernel) ⟨Nat.le_of_ble_eq_true rfl, Nat.le_of_ble_eq_true rfl⟩) (he_preV (q := (RX3, TX3, 2)) [.int i] hK hN hW hJ kb6 rfl rfl) rfl rfl hl.1 rfl (lv_room (Nat.le_of_ble_eq_true rfl)) dX6_content_18 ⟨Nat.zero_le _, Nat.zero_le _⟩) hJ (fun b8 g7 H locs kb8 hp hJ => ?_)
    obtain ⟨rfl, f10⟩ := hp
    obtain ⟨j9, hj9, ej9⟩ : ∃ j9 : Nat, j9 < 12 ∧ (g 16 i.toInt.toNat) = 300 + (j9 : Int) := ⟨((g 16 i.toInt.toNat) - 300).toNat, by omega, by omega⟩
    have kb8 : κ b8 = 300 + j9 := by rw [kb8]; omega
    refine he_callr (va_runV (As := []) (rest := []) ⟨hx, hb, hml, hown, hts⟩ (e_X2_contents l dC dI dA κ B g (j9) (by omega) b8 kb8) (cwV 0 hts gX6_content_X2_contents rfl rfl rfl (by decide +kernel) ⟨Nat.le_of_ble_eq_true rfl, Nat.le_of_ble_eq_true rfl⟩) (he_preV (q := (RX2, TX2, 4)) [] hK hN hW hJ kb8 (hk_t300 (by omega)) rfl) rfl rfl hl.1 rfl (lv_room (Nat.le_of_ble_eq_true rfl)) dX6_content_21 ⟨Nat.zero_le _, Nat.zero_le _⟩) hJ (fun b12 g11 H locs kb12 hp hJ => ?_)
    obtain ⟨rfl, f14⟩ := hp
    obtain ⟨c13, hc13, ec13⟩ : ∃ c13 : Nat, c13 < 13 ∧ (g (300 + j9) 0) = 320 + (c13 : Int) := ⟨((g (300 + j9) 0) - 320).toNat, by omega, by omega⟩
    have kb12 : κ b12 = 320 + c13 := by rw [kb12]; omega
    refine lv_astore (lv' := [(4, .ref b12), (0, .ref h0), (1, .int i), (2, .int type), (3, .int k)]) hx hb dX6_content_24 hl (by decide) rfl (fun ls hl => ?_)
    refine lv_iload_n hx hb dX6_content_26 rfl (lv_at hl 4 rfl) ?_
    refine hq_iconst hx hb dX6_content_27 (by decide) (by decide) (fun z15 ez15 => ?_)
    refine hq_icmp_ne (tgt := 40) hx hb dX6_content_28 (by decide) (fun c16 => ?_) (fun c16 => ?_)
    · refine lv_aload hx hb dX6_content_40 (lv_at hl 0 rfl) ?_
      refine lv_iload_n hx hb dX6_content_42 rfl (lv_at hl 3 rfl) ?_
      refine lv_iload_n hx hb dX6_content_43 rfl (lv_at hl 4 rfl) ?_
      refine he_calli (va_runV (As := [.int type, .int k]) (rest := []) ⟨hx, hb, hml, hown, hts⟩ (e_X0_byteAt l dC dI dA κ B g (c13) (by omega) b12 kb12 type k) (cwV 2 hts gX6_content_X0_byteAt rfl rfl rfl (by decide +kernel) ⟨Nat.le_of_ble_eq_true rfl, Nat.le_of_ble_eq_true rfl⟩) (he_preV (q := (RX0, TX0, 2)) [.int type, .int k] hK hN hW hJ kb12 (hk_t320 (by omega)) rfl) rfl rfl hl.1 rfl (lv_room (Nat.le_of_ble_eq_true rfl)) dX6_content_44 ⟨Nat.zero_le _, Nat.zero_le _⟩) hJ (fun x18 g17 H locs hp hJ => ?_)
      obtain ⟨rfl, f19⟩ := hp
      exact he_iret hx hb hK hN hW hlocks hJ hr ⟨rfl, by
        have hil : i.toInt.toNat < (hc_tab g).length := by rw [hlen]; omega
        have h3 := h03 _ (List.getElem_mem hil) _ (by rw [hc_tab_get, show (g 16 i.toInt.toNat - 300).toNat = j9 by omega])
        rw [hr_ct_at (by omega) hil, hc_tab_get, show (g 16 i.toInt.toNat - 300).toNat = j9 by omega]
        have hrc : (hc_row g j9).2.2.2 = hc_con g c13 := by unfold hc_row; rw [ec13, show (320 + (c13 : Int) - 320).toNat = c13 by omega]
        rw [hrc] at h3 ⊢
        have hf := f19
        exact hc_ct h3 hf (by omega)⟩ dX6_content_47
    · refine lv_aload hx hb dX6_content_31 (lv_at hl 0 rfl) ?_
      refine lv_iload_n hx hb dX6_content_33 rfl (lv_at hl 3 rfl) ?_
      refine he_calli (va_runV (As := [.int type]) (rest := []) ⟨hx, hb, hml, hown, hts⟩ (e_X0_sizeOf l dC dI dA κ B g (c13) (by omega) b12 kb12 type) (cwV 1 hts gX6_content_X0_sizeOf rfl rfl rfl (by decide +kernel) ⟨Nat.le_of_ble_eq_true rfl, Nat.le_of_ble_eq_true rfl⟩) (he_preV (q := (RX0, TX0, 2)) [.int type] hK hN hW hJ kb12 (hk_t320 (by omega)) rfl) rfl rfl hl.1 rfl (lv_room (Nat.le_of_ble_eq_true rfl)) dX6_content_34 ⟨Nat.zero_le _, Nat.zero_le _⟩) hJ (fun x21 g20 H locs hp hJ => ?_)
      obtain ⟨rfl, f22⟩ := hp
      refine lv_goto (tgt := 47) hx hb dX6_content_37 (by decide) ?_
      exact he_iret hx hb hK hN hW hlocks hJ hr ⟨rfl, by
        have hil : i.toInt.toNat < (hc_tab g).length := by rw [hlen]; omega
        have h3 := h03 _ (List.getElem_mem hil) _ (by rw [hc_tab_get, show (g 16 i.toInt.toNat - 300).toNat = j9 by omega])
        rw [hr_ct_at (by omega) hil, hc_tab_get, show (g 16 i.toInt.toNat - 300).toNat = j9 by omega]
        have hrc : (hc_row g j9).2.2.2 = hc_con g c13 := by unfold hc_row; rw [ec13, show (320 + (c13 : Int) - 320).toNat = c13 by omega]
        rw [hrc] at h3 ⊢
        have hf := f22
        by_cases ht : 1 ≤ type.toInt ∧ type.toInt ≤ 8 ∧ type.toInt ≠ 3
        · rw [if_pos ht, if_pos (by omega), hc_con_1 (by omega)]; omega
        · rw [if_neg ht]
          exact hc_no h3 hf ht⟩ dX6_content_47
  · refine hq_iconst hx hb dX6_content_11 (by decide) (by decide) (fun z23 ez23 => ?_)
    exact he_iret hx hb hK hN hW hlocks hJ hr ⟨rfl, by rw [hr_ct_no (by rw [hlen]; omega)]; omega⟩ dX6_content_12
