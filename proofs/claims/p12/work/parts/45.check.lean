theorem iX6_check_X6 : ∀ w ∈ wsX60, w ∈ wsX6_check := fun _ h => List.mem_cons_of_mem _ (List.mem_append_left _ (List.mem_append_left _ (List.mem_append_left _ (List.mem_append_left _ (List.mem_append_right _ h)))))
theorem iX6_check_X3 : ∀ w ∈ wsX30, w ∈ wsX6_check := fun _ h => List.mem_cons_of_mem _ (List.mem_append_left _ (List.mem_append_left _ (List.mem_append_left _ (List.mem_append_right _ h))))
theorem iX6_check_X2 : ∀ w ∈ wsX20, w ∈ wsX6_check := fun _ h => List.mem_cons_of_mem _ (List.mem_append_left _ (List.mem_append_left _ (List.mem_append_right _ h)))
theorem iX6_check_X4 : ∀ w ∈ wsX40, w ∈ wsX6_check := fun _ h => List.mem_cons_of_mem _ (List.mem_append_left _ (List.mem_append_right _ h))
theorem iX6_check_X0 : ∀ w ∈ wsX00, w ∈ wsX6_check := fun _ h => List.mem_cons_of_mem _ (List.mem_append_right _ h)
set_option maxRecDepth 100000 in
set_option maxHeartbeats 4000000 in
theorem e_X6_check (l : Launch) (dC : Nat → ClassId) (dI : Nat → Nat → Nat) (dA : Nat → ClassId) (κ : Nat → Nat) (B : Nat) (g : Nat → Nat → Int) (h0 : Nat) (k0 : κ h0 = 1) (hw : hc_wf g) (hI : hr_inv (hc_tab g) (fun q => g (5 + q) 0)) : Met l yX6_check wsX6_check ({ frames := 4, cells := 0, slots := 0, locals := 91 } : Room) (he_Pre dC dI dA κ B g [Value.ref h0]) (he_Qi dC dI dA κ B (fun r u => g = u ∧ r.toInt = 1)) 0 0 (hp_A B) := by
  refine Met.ofW (cc := cX6_check) (maxL := 3) (ret := (some .int)) (by decide) rfl ?_
  intro p e s m args below meth c s₁ Bd hml hv
  obtain ⟨rfl, hK, hN, hW, hF⟩ := hv
  have hx := Bd.exec
  have hb := Bd.bytes
  have hr := Bd.returns
  have hts := atoms_spec (ws := wsX6_check) Bd.pre
  have hown : s.vm.findClass RX6 = some m.cls := findClass_of_methodNamed Bd.named
  have hlocks := Bd.notSynchronized
  have hJ : he_J dC dI dA κ B g s.heap s.heap [] := ⟨hF, va_S.rf⟩
  have hl := lv_entry ([Value.ref h0]) (n := 3) (Nat.le_of_ble_eq_true rfl)
  rw [lg_entry_eq]
  generalize (lg_sl ([Value.ref h0]) ++ List.replicate (3 - (lg_sl ([Value.ref h0])).length) Slot.unset).toArray = ls at hl ⊢
  have hl : lv_has ls 3 [(0, .ref h0)] := hl
  refine hq_iconst hx hb dX6_check_0 (by decide) (by decide) (fun z1 ez1 => ?_)
  refine lv_istore_n (lv' := [(1, .int z1), (0, .ref h0)]) hx hb dX6_check_1 rfl hl (by decide) rfl (fun ls hl => ?_)
  have lp3 : ∀ (nlp3 : Nat) (v2 : Int32) (H : Heap) (locs : List Loc) (ls : Array Slot), (0 ≤ v2.toInt) → (v2.toInt ≤ 12) → (13 - v2.toInt < (nlp3 : Int)) → he_J dC dI dA κ B g s.heap H locs → lv_has ls 3 [(0, .ref h0), (1, .int v2)] → W p l e (headSpec wsX6_check ({ frames := 4, cells := 0, slots := 0, locals := 91 } : Room)).room s m ([Value.ref h0] : List Value).toArray below meth c H locs 0 0 (MQ below (he_Qi dC dI dA κ B (fun r u => g = u ∧ r.toInt = 1)) ([Value.ref h0] : List Value).toArray s 0 0 (hp_A B)) (F0 m 2 ls []) := by
    intro nlp3
    induction nlp3 with
    | zero => intro v2 H locs ls iv5 iv6 hm4 hJ hl; exact absurd hm4 (by omega)
    | succ nlp3 ihlp3 =>
      intro v2 H locs ls iv5 iv6 hm4 hJ hl
      refine lv_iload_n hx hb dX6_check_2 rfl (lv_at hl 1 rfl) ?_
      refine lv_aload_n hx hb dX6_check_3 rfl (lv_at hl 0 rfl) ?_
      refine he_getr (C := RX6) (T := TX6) (N := 12) (ci := 6) (kd := 1) hx hb hts iX6_check_X6 hown hK hJ k0 rfl rfl 4 (by decide) (hts (.fieldLink RX6 29 "NeighborBook" "known" "LNeighborBook$Neighbors;") (List.mem_of_getElem? (i := 1) rfl)) (fun _ h9 => h9) rfl dX6_check_4 (fun b7 kb7 => ?_)
      refine he_calli (va_runV (As := []) (rest := [.int v2]) ⟨hx, hb, hml, hown, hts⟩ (e_X3_size l dC dI dA κ B g b7 kb7) (cwV 0 hts gX6_check_X3_size rfl rfl rfl (by decide +kernel) ⟨Nat.le_of_ble_eq_true rfl, Nat.le_of_ble_eq_true rfl⟩) (he_preV (q := (RX3, TX3, 2)) [] hK hN hW hJ kb7 rfl rfl) rfl rfl hl.1 rfl (lv_room (Nat.le_of_ble_eq_true rfl)) dX6_check_7 ⟨Nat.zero_le _, Nat.zero_le _⟩) hJ (fun x9 g8 H locs hp hJ => ?_)
      obtain ⟨rfl, f10⟩ := hp
      refine hq_icmp_ge (tgt := 75) hx hb dX6_check_10 (by decide) (fun c11 => ?_) (fun c11 => ?_)
      · refine hq_iconst hx hb dX6_check_75 (by decide) (by decide) (fun z12 ez12 => ?_)
        exact he_iret hx hb hK hN hW hlocks hJ hr ⟨rfl, by omega⟩ dX6_check_76
      · refine lv_aload_n hx hb dX6_check_13 rfl (lv_at hl 0 rfl) ?_
        refine he_getr (C := RX6) (T := TX6) (N := 12) (ci := 6) (kd := 1) hx hb hts iX6_check_X6 hown hK hJ k0 rfl rfl 4 (by decide) (hts (.fieldLink RX6 29 "NeighborBook" "known" "LNeighborBook$Neighbors;") (List.mem_of_getElem? (i := 1) rfl)) (fun _ h9 => h9) rfl dX6_check_14 (fun b13 kb13 => ?_)
        refine lv_iload_n hx hb dX6_check_17 rfl (lv_at hl 1 rfl) ?_
        refine he_callr (va_runV (As := [.int v2]) (rest := []) ⟨hx, hb, hml, hown, hts⟩ (e_X3_at l dC dI dA κ B g b13 kb13 v2 (by omega) (by omega)) (cwV 1 hts gX6_check_X3_at rfl rfl rfl (by decide +kernel) ⟨Nat.le_of_ble_eq_true rfl, Nat.le_of_ble_eq_true rfl⟩) (he_preV (q := (RX3, TX3, 2)) [.int v2] hK hN hW hJ kb13 rfl rfl) rfl rfl hl.1 rfl (lv_room (Nat.le_of_ble_eq_true rfl)) dX6_check_18 ⟨Nat.zero_le _, Nat.zero_le _⟩) hJ (fun b15 g14 H locs kb15 hp hJ => ?_)
        obtain ⟨rfl, f17⟩ := hp
        obtain ⟨j16, hj16, ej16⟩ : ∃ j16 : Nat, j16 < 12 ∧ (g 16 v2.toInt.toNat) = 300 + (j16 : Int) := ⟨((g 16 v2.toInt.toNat) - 300).toNat, by omega, by omega⟩
        have kb15 : κ b15 = 300 + j16 := by rw [kb15]; omega
        refine he_calli (va_runV (As := []) (rest := []) ⟨hx, hb, hml, hown, hts⟩ (e_X2_portOf l dC dI dA κ B g (j16) (by omega) b15 kb15) (cwV 0 hts gX6_check_X2_portOf rfl rfl rfl (by decide +kernel) ⟨Nat.le_of_ble_eq_true rfl, Nat.le_of_ble_eq_true rfl⟩) (he_preV (q := (RX2, TX2, 4)) [] hK hN hW hJ kb15 (hk_t300 (by omega)) rfl) rfl rfl hl.1 rfl (lv_room (Nat.le_of_ble_eq_true rfl)) dX6_check_21 ⟨Nat.zero_le _, Nat.zero_le _⟩) hJ (fun x19 g18 H locs hp hJ => ?_)
        obtain ⟨rfl, f20⟩ := hp
        have hvl : v2.toInt.toNat < (hc_tab g).length := by rw [hc_tab_len]; omega
        have hrow := hI.1 _ (List.getElem_mem hvl)
        rw [hc_tab_get, ej16, show (300 + (j16 : Int) - 300).toNat = j16 by omega] at hrow
        have hup : g (5 + (g (300 + j16) 1).toNat) 0 = 1 := hrow.2.2.1
        refine lv_istore_n (lv' := [(2, .int x19), (0, .ref h0), (1, .int v2)]) hx hb dX6_check_24 rfl hl (by decide) rfl (fun ls hl => ?_)
        refine lv_iload_n hx hb dX6_check_25 rfl (lv_at hl 0 rfl) ?_
        refine he_calli (va_runS (As := [.int x19]) (rest := []) ⟨hx, hb, hml, hown, hts⟩ (e_X6_isPort l dC dI dA κ B g x19) (va_cwS 1 hts gX6_check_X6_isPort rfl rfl rfl (by decide +kernel) ⟨Nat.le_of_ble_eq_true rfl, Nat.le_of_ble_eq_true rfl⟩) (he_preS [.int x19] hK hN hW hJ) rfl rfl hl.1 rfl (lv_room (Nat.le_of_ble_eq_true rfl)) dX6_check_26 ⟨Nat.zero_le _, Nat.zero_le _⟩) hJ (fun x22 g21 H locs hp hJ => ?_)
        obtain ⟨rfl, f23⟩ := hp
        refine hq_if_eq (tgt := 67) hx hb dX6_check_29 (by decide) (fun c24 => ?_) (fun c24 => ?_)
        · exfalso; omega
        · refine lv_aload_n hx hb dX6_check_32 rfl (lv_at hl 1 rfl) ?_
          refine he_getr (C := RX6) (T := TX6) (N := 12) (ci := 6) (kd := 1) hx hb hts iX6_check_X6 hown hK hJ k0 rfl rfl 3 (by decide) (hts (.fieldLink RX6 22 "NeighborBook" "ports" "[LNeighborBook$Port;") (List.mem_of_getElem? (i := 2) rfl)) (fun _ h9 => h9) rfl dX6_check_33 (fun b25 kb25 => ?_)
          refine lv_iload_n hx hb dX6_check_36 rfl (lv_at hl 0 rfl) ?_
          refine he_aald3 (kd := 15) (n := 4) hx hb hK hJ kb25 rfl (by omega) (by omega) (he_s15 (by omega)) dX6_check_37 (fun b26 kb26 => ?_)
          refine he_calli (va_runV (As := []) (rest := []) ⟨hx, hb, hml, hown, hts⟩ (e_X4_isUp l dC dI dA κ B g (x19.toInt.toNat) (by omega) b26 kb26) (cwV 0 hts gX6_check_X4_isUp rfl rfl rfl (by decide +kernel) ⟨Nat.le_of_ble_eq_true rfl, Nat.le_of_ble_eq_true rfl⟩) (he_preV (q := (RX4, TX4, 6)) [] hK hN hW hJ kb26 (hk_t5 (by omega)) rfl) rfl rfl hl.1 rfl (lv_room (Nat.le_of_ble_eq_true rfl)) dX6_check_38 ⟨Nat.zero_le _, Nat.zero_le _⟩) hJ (fun x28 g27 H locs hp hJ => ?_)
          obtain ⟨rfl, f29⟩ := hp
          have hup2 : g (5 + x19.toInt.toNat) 0 = 1 := by rw [show x19.toInt = g (300 + j16) 1 by omega]; exact hup
          refine hq_if_eq (tgt := 67) hx hb dX6_check_41 (by decide) (fun c30 => ?_) (fun c30 => ?_)
          · exfalso; omega
          · refine lv_aload_n hx hb dX6_check_44 rfl (lv_at hl 1 rfl) ?_
            refine he_getr (C := RX6) (T := TX6) (N := 12) (ci := 6) (kd := 1) hx hb hts iX6_check_X6 hown hK hJ k0 rfl rfl 4 (by decide) (hts (.fieldLink RX6 29 "NeighborBook" "known" "LNeighborBook$Neighbors;") (List.mem_of_getElem? (i := 1) rfl)) (fun _ h9 => h9) rfl dX6_check_45 (fun b31 kb31 => ?_)
            refine lv_iload_n hx hb dX6_check_48 rfl (lv_at hl 0 rfl) ?_
            refine lv_aload_n hx hb dX6_check_49 rfl (lv_at hl 1 rfl) ?_
            refine he_getr (C := RX6) (T := TX6) (N := 12) (ci := 6) (kd := 1) hx hb hts iX6_check_X6 hown hK hJ k0 rfl rfl 4 (by decide) (hts (.fieldLink RX6 29 "NeighborBook" "known" "LNeighborBook$Neighbors;") (List.mem_of_getElem? (i := 1) rfl)) (fun _ h9 => h9) rfl dX6_check_50 (fun b32 kb32 => ?_)
            refine lv_iload_n hx hb dX6_check_53 rfl (lv_at hl 2 rfl) ?_
            refine he_callr (va_runV (As := [.int v2]) (rest := [.int x19, .ref b31]) ⟨hx, hb, hml, hown, hts⟩ (e_X3_at l dC dI dA κ B g b32 kb32 v2 (by omega) (by omega)) (cwV 1 hts gX6_check_X3_at rfl rfl rfl (by decide +kernel) ⟨Nat.le_of_ble_eq_true rfl, Nat.le_of_ble_eq_true rfl⟩) (he_preV (q := (RX3, TX3, 2)) [.int v2] hK hN hW hJ kb32 rfl rfl) rfl rfl hl.1 rfl (lv_room (Nat.le_of_ble_eq_true rfl)) dX6_check_54 ⟨Nat.zero_le _, Nat.zero_le _⟩) hJ (fun b34 g33 H locs kb34 hp hJ => ?_)
            obtain ⟨rfl, f36⟩ := hp
            obtain ⟨j35, hj35, ej35⟩ : ∃ j35 : Nat, j35 < 12 ∧ (g 16 v2.toInt.toNat) = 300 + (j35 : Int) := ⟨((g 16 v2.toInt.toNat) - 300).toNat, by omega, by omega⟩
            have kb34 : κ b34 = 300 + j35 := by rw [kb34]; omega
            refine he_callr (va_runV (As := []) (rest := [.int x19, .ref b31]) ⟨hx, hb, hml, hown, hts⟩ (e_X2_contents l dC dI dA κ B g (j35) (by omega) b34 kb34) (cwV 0 hts gX6_check_X2_contents rfl rfl rfl (by decide +kernel) ⟨Nat.le_of_ble_eq_true rfl, Nat.le_of_ble_eq_true rfl⟩) (he_preV (q := (RX2, TX2, 4)) [] hK hN hW hJ kb34 (hk_t300 (by omega)) rfl) rfl rfl hl.1 rfl (lv_room (Nat.le_of_ble_eq_true rfl)) dX6_check_57 ⟨Nat.zero_le _, Nat.zero_le _⟩) hJ (fun b38 g37 H locs kb38 hp hJ => ?_)
            obtain ⟨rfl, f40⟩ := hp
            obtain ⟨c39, hc39, ec39⟩ : ∃ c39 : Nat, c39 < 13 ∧ (g (300 + j35) 0) = 320 + (c39 : Int) := ⟨((g (300 + j35) 0) - 320).toNat, by omega, by omega⟩
            have kb38 : κ b38 = 320 + c39 := by rw [kb38]; omega
            refine he_calli (va_runV (As := [.int x19, .ref b38]) (rest := []) ⟨hx, hb, hml, hown, hts⟩ (e_X3_find l dC dI dA κ B g (c39) (by omega) b31 kb31 x19 b38 kb38) (cwV 2 hts gX6_check_X3_find rfl rfl rfl (by decide +kernel) ⟨Nat.le_of_ble_eq_true rfl, Nat.le_of_ble_eq_true rfl⟩) (he_preV (q := (RX3, TX3, 2)) [.int x19, .ref b38] hK hN hW hJ kb31 rfl rfl) rfl rfl hl.1 rfl (lv_room (Nat.le_of_ble_eq_true rfl)) dX6_check_60 ⟨Nat.zero_le _, Nat.zero_le _⟩) hJ (fun x42 g41 H locs hp hJ => ?_)
            obtain ⟨rfl, f43⟩ := hp
            have hjj : j35 = j16 := by omega
            have hmt : hc_mt g x19.toInt c39 v2.toInt.toNat := (hc_mt_iff ej35 ec39).mpr ⟨by rw [hjj]; omega, hc_same.rf⟩
            have hself := hc_self hI.2 f43.1 (by omega) hmt f43.2.1 f43.2.2.1 f43.2.2.2.2.1 f43.2.2.2.2.2.1 f43.2.2.2.2.2.2
            refine lv_iload_n hx hb dX6_check_63 rfl (lv_at hl 2 rfl) ?_
            refine hq_icmp_eq (tgt := 69) hx hb dX6_check_64 (by decide) (fun c44 => ?_) (fun c44 => ?_)
            · refine hq_iinc (k := 2) (lv' := fun (z9 : Int32) => [(1, .int z9), (2, .int x19), (0, .ref h0)]) hx hb dX6_check_69 hl rfl (by decide) (by decide) (by omega) (by omega) (by decide) (fun _ => rfl) (fun x45 ls ex45 hl => ?_)
              have hl : lv_has ls 3 [(1, .int x45), (2, .int x19), (0, .ref h0)] := hl
              refine lv_goto (tgt := 2) hx hb dX6_check_72 (by decide) ?_
              exact ihlp3 x45 _ _ ls (by omega) (by omega) (by omega) hJ (lv_sub hl [2, 0] rfl)
            · exfalso; omega
  exact lp3 ((13 - z1.toInt).toNat + 1) z1 _ _ ls (by omega) (by omega) (by omega) hJ (lv_sub hl [1, 0] rfl)
