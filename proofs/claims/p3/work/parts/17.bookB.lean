theorem iX6_hear_X6 : ∀ w ∈ wsX60, w ∈ wsX6_hear := fun _ h => List.mem_cons_of_mem _ (List.mem_append_left _ (List.mem_append_left _ (List.mem_append_left _ (List.mem_append_left _ (List.mem_append_left _ (List.mem_append_right _ h))))))
theorem iX6_hear_X4 : ∀ w ∈ wsX40, w ∈ wsX6_hear := fun _ h => List.mem_cons_of_mem _ (List.mem_append_left _ (List.mem_append_left _ (List.mem_append_left _ (List.mem_append_left _ (List.mem_append_right _ h)))))
theorem iX6_hear_X1 : ∀ w ∈ wsX10, w ∈ wsX6_hear := fun _ h => List.mem_cons_of_mem _ (List.mem_append_left _ (List.mem_append_left _ (List.mem_append_left _ (List.mem_append_right _ h))))
theorem iX6_hear_X0 : ∀ w ∈ wsX00, w ∈ wsX6_hear := fun _ h => List.mem_cons_of_mem _ (List.mem_append_left _ (List.mem_append_left _ (List.mem_append_right _ h)))
theorem iX6_hear_X3 : ∀ w ∈ wsX30, w ∈ wsX6_hear := fun _ h => List.mem_cons_of_mem _ (List.mem_append_left _ (List.mem_append_right _ h))
theorem iX6_hear_X2 : ∀ w ∈ wsX20, w ∈ wsX6_hear := fun _ h => List.mem_cons_of_mem _ (List.mem_append_right _ h)
set_option maxRecDepth 100000 in
set_option maxHeartbeats 4000000 in
theorem c_X6_hear (l : Launch) (dC : Nat → ClassId) (dI : Nat → Nat → Nat) (dA : Nat → ClassId) (κ : Nat → Nat) (B : Nat) (g : Nat → Nat → Int) (h0 : Nat) (k0 : κ h0 = 1) (p1 : Int32) (hG : hg_k g) : Met l yX6_hear wsX6_hear ({ frames := 5, cells := 0, slots := 0, locals := 117 } : Room) (hp_Pre dC dI dA κ B g [Value.ref h0, Value.int p1]) (hp_Qi dC dI dA κ B (fun r u => hg_P hx_d g u ∧ hg_k u ∧ (((0 ≤ p1.toInt ∧ p1.toInt < 4 ∧ g (5 + p1.toInt.toNat) 0 = 1) ∧ u 1 1 = 0) ∨ (¬ (0 ≤ p1.toInt ∧ p1.toInt < 4 ∧ g (5 + p1.toInt.toNat) 0 = 1) ∧ u 1 1 = g 1 1 ∧ r.toInt = -1)))) 0 0 (hp_A B) := by
  refine Met.ofW (cc := cX6_hear) (maxL := 3) (ret := (some .int)) (by decide) rfl ?_
  intro p e s m args below meth c s₁ Bd hml hv
  obtain ⟨rfl, hK, hN, hW, hF⟩ := hv
  have hx := Bd.exec
  have hb := Bd.bytes
  have hr := Bd.returns
  have hts := atoms_spec (ws := wsX6_hear) Bd.pre
  have hown : s.vm.findClass RX6 = some m.cls := findClass_of_methodNamed Bd.named
  have hlocks := Bd.notSynchronized
  have hJ : hp_J dC dI dA κ B g s.heap s.heap [] := ⟨hF, va_S.rf⟩
  have hl := lv_entry ([Value.ref h0, Value.int p1]) (n := 3) (Nat.le_of_ble_eq_true rfl)
  rw [lg_entry_eq]
  generalize (lg_sl ([Value.ref h0, Value.int p1]) ++ List.replicate (3 - (lg_sl ([Value.ref h0, Value.int p1])).length) Slot.unset).toArray = ls at hl ⊢
  have hl : lv_has ls 3 [(0, .ref h0), (1, .int p1)] := hl
  obtain ⟨hG1, hG2, hG3, hG4, hG5, hG6, hG7, hG8⟩ := id hG
  refine lv_iload_n hx hb dX6_hear_0 rfl (lv_at hl 1 rfl) ?_
  refine hp_calli (va_runS (As := [.int p1]) (rest := []) ⟨hx, hb, hml, hown, hts⟩ (c_X6_isPort l dC dI dA κ B g p1) (va_cwS 1 hts gX6_hear_X6_isPort rfl rfl rfl (by decide +kernel) ⟨Nat.le_of_ble_eq_true rfl, Nat.le_of_ble_eq_true rfl⟩) (hp_preS [.int p1] hK hN hW hJ) rfl rfl hl.1 rfl (lv_room (Nat.le_of_ble_eq_true rfl)) dX6_hear_1 ⟨Nat.zero_le _, Nat.zero_le _⟩) hJ (fun x2 g1 H locs hp hJ => ?_)
  obtain ⟨rfl, f3⟩ := hp
  refine hq_if_eq (tgt := 19) hx hb dX6_hear_4 (by decide) (fun c4 => ?_) (fun c4 => ?_)
  · refine hq_iconst hx hb dX6_hear_19 (by decide) (by decide) (fun z5 ez5 => ?_)
    exact hp_iret hx hb hK hN hW hlocks hJ hr ⟨hg_P.rf, hG, by omega⟩ dX6_hear_20
  · refine lv_aload_n hx hb dX6_hear_7 rfl (lv_at hl 0 rfl) ?_
    refine hp_getr (C := RX6) (T := TX6) (N := 12) (ci := 6) (kd := 1) hx hb hts iX6_hear_X6 hown hK hJ k0 rfl rfl 3 (by decide) (hts (.fieldLink RX6 22 "NeighborBook" "ports" "[LNeighborBook$Port;") (List.mem_of_getElem? (i := 1) rfl)) (fun _ h9 => h9) rfl dX6_hear_8 (fun b6 kb6 => ?_)
    refine lv_iload_n hx hb dX6_hear_11 rfl (lv_at hl 1 rfl) ?_
    refine hp_aald3 (kd := 15) (n := 4) hx hb hK hJ kb6 rfl (by omega) (by omega) (hk_s15 (by omega)) dX6_hear_12 (fun b7 kb7 => ?_)
    refine hp_calli (va_runV (As := []) (rest := []) ⟨hx, hb, hml, hown, hts⟩ (c_X4_isUp l dC dI dA κ B g (p1.toInt.toNat) (by omega : p1.toInt.toNat < 4) b7 kb7 hG) (cwV 0 hts gX6_hear_X4_isUp rfl rfl rfl (by decide +kernel) ⟨Nat.le_of_ble_eq_true rfl, Nat.le_of_ble_eq_true rfl⟩) (hp_preV (q := (RX4, TX4, 6)) [] hK hN hW hJ kb7 (hk_t5 (by omega : p1.toInt.toNat < 4)) rfl) rfl rfl hl.1 rfl (lv_room (Nat.le_of_ble_eq_true rfl)) dX6_hear_13 ⟨Nat.zero_le _, Nat.zero_le _⟩) hJ (fun x9 g8 H locs hp hJ => ?_)
    obtain ⟨rfl, f10⟩ := hp
    refine hq_if_ne (tgt := 21) hx hb dX6_hear_16 (by decide) (fun c11 => ?_) (fun c11 => ?_)
    · have hGq := hG7 p1.toInt.toNat (by omega)
      refine lv_aload_n hx hb dX6_hear_21 rfl (lv_at hl 0 rfl) ?_
      refine hp_getr (C := RX6) (T := TX6) (N := 12) (ci := 6) (kd := 1) hx hb hts iX6_hear_X6 hown hK hJ k0 rfl rfl 5 (by decide) (hts (.fieldLink RX6 36 "NeighborBook" "reader" "LNeighborBook$FrameReader;") (List.mem_of_getElem? (i := 2) rfl)) (fun _ h9 => h9) rfl dX6_hear_22 (fun b12 kb12 => ?_)
      refine lv_aload_n hx hb dX6_hear_25 rfl (lv_at hl 0 rfl) ?_
      refine hp_getr (C := RX6) (T := TX6) (N := 12) (ci := 6) (kd := 1) hx hb hts iX6_hear_X6 hown hK hJ k0 rfl rfl 0 (by decide) (hts (.fieldLink RX6 9 "NeighborBook" "typed" "[B") (List.mem_of_getElem? (i := 3) rfl)) (fun _ h9 => h9) rfl dX6_hear_26 (fun b13 kb13 => ?_)
      refine lv_aload_n hx hb dX6_hear_29 rfl (lv_at hl 0 rfl) ?_
      refine hp_geti (C := RX6) (T := TX6) (N := 12) (ci := 6) (kd := 1) hx hb hts iX6_hear_X6 hown hK hJ k0 rfl rfl 1 (by decide) (hts (.fieldLink RX6 65 "NeighborBook" "typedCount" "I") (List.mem_of_getElem? (i := 4) rfl)) (fun _ h9 => h9) rfl rfl dX6_hear_30 (fun x14 ex14 => ?_)
      have ex14 : x14.toInt = g 1 1 := ex14
      refine hp_calli (va_runV (As := [.ref b13, .int x14]) (rest := []) ⟨hx, hb, hml, hown, hts⟩ (c_X1_read l dC dI dA κ B g b12 kb12 b13 kb13 x14 (by omega) (by omega)) (cwV 2 hts gX6_hear_X1_read rfl rfl rfl (by decide +kernel) ⟨Nat.le_of_ble_eq_true rfl, Nat.le_of_ble_eq_true rfl⟩) (hp_preV (q := (RX1, TX1, 2)) [.ref b13, .int x14] hK hN hW hJ kb12 rfl rfl) rfl rfl hl.1 rfl (lv_room (Nat.le_of_ble_eq_true rfl)) dX6_hear_33 ⟨Nat.zero_le _, Nat.zero_le _⟩) hJ (fun x16 g15 H locs hp hJ => ?_)
      subst hp
      refine lv_istore_n (lv' := [(2, .int x16), (0, .ref h0), (1, .int p1)]) hx hb dX6_hear_36 rfl hl (by decide) rfl (fun ls hl => ?_)
      refine lv_aload_n hx hb dX6_hear_37 rfl (lv_at hl 1 rfl) ?_
      refine hq_iconst hx hb dX6_hear_38 (by decide) (by decide) (fun z17 ez17 => ?_)
      refine hp_putx (C := RX6) (T := TX6) (N := 12) (ci := 6) (kd := 1) hx hb hts iX6_hear_X6 hown hK hJ k0 rfl rfl 1 (by decide) (hts (.fieldLink RX6 65 "NeighborBook" "typedCount" "I") (List.mem_of_getElem? (i := 4) rfl)) (fun _ h9 => h9) tyX6 tyX6_ok nmX6 (x := z17) rfl rfl (by decide) hW rfl rfl rfl dX6_hear_39 (fun g18 H locs eg18 ng18 hJ => ?_)
      have eg18 : g18 1 1 = z17.toInt := eg18
      have P19 : hg_P hx_d g g18 := hg_P.put hg_P.rf ng18 rfl
      have tt20 : g18 10 1 = g 10 1 := ng18 10 1 (by decide)
      have tt21 : g18 4 1 = g 4 1 := ng18 4 1 (by decide)
      refine lv_iload_n hx hb dX6_hear_42 rfl (lv_at hl 0 rfl) ?_
      refine hq_if_ne (tgt := 52) hx hb dX6_hear_43 (by decide) (fun c22 => ?_) (fun c22 => ?_)
      · refine lv_aload_n hx hb dX6_hear_52 rfl (lv_at hl 1 rfl) ?_
        refine hp_getr (C := RX6) (T := TX6) (N := 12) (ci := 6) (kd := 1) hx hb hts iX6_hear_X6 hown hK hJ k0 rfl rfl 3 (by decide) (hts (.fieldLink RX6 22 "NeighborBook" "ports" "[LNeighborBook$Port;") (List.mem_of_getElem? (i := 1) rfl)) (fun _ h9 => h9) rfl dX6_hear_53 (fun b23 kb23 => ?_)
        refine lv_iload_n hx hb dX6_hear_56 rfl (lv_at hl 2 rfl) ?_
        refine hp_aald3 (kd := 15) (n := 4) hx hb hK hJ kb23 rfl (by omega) (by omega) (hk_s15 (by omega)) dX6_hear_57 (fun b24 kb24 => ?_)
        refine lv_iload_n hx hb dX6_hear_58 rfl (lv_at hl 0 rfl) ?_
        refine hq_if_ne (tgt := 66) hx hb dX6_hear_59 (by decide) (fun c25 => ?_) (fun c25 => ?_)
        · refine hq_iconst hx hb dX6_hear_66 (by decide) (by decide) (fun z26 ez26 => ?_)
          refine hp_callv (va_runV (As := [.int z26]) (rest := []) ⟨hx, hb, hml, hown, hts⟩ (c_X4_noteHeard l dC dI dA κ B g18 (p1.toInt.toNat) (by omega : p1.toInt.toNat < 4) b24 kb24 z26 (hg_k.ofd hG P19 (by constructor <;> omega) (by constructor <;> omega) (by constructor <;> omega) )) (cwV 1 hts gX6_hear_X4_noteHeard rfl rfl rfl (by decide +kernel) ⟨Nat.le_of_ble_eq_true rfl, Nat.le_of_ble_eq_true rfl⟩) (hp_preV (q := (RX4, TX4, 6)) [.int z26] hK hN hW hJ kb24 (hk_t5 (by omega : p1.toInt.toNat < 4)) rfl) rfl rfl hl.1 rfl (lv_room (Nat.le_of_ble_eq_true rfl)) dX6_hear_67 ⟨Nat.zero_le _, Nat.zero_le _⟩) hJ (fun g27 H locs hp hJ => ?_)
          obtain ⟨P29a, K30⟩ := hp
          obtain ⟨K301, K302, K303, K304, K305, K306, K307, K308⟩ := id K30
          have P29 : hg_P hx_d g g27 := hg_P.tr P19 (P29a.le hx_cd)
          have qt31 : g27 1 1 = g18 1 1 := P29a 1 1 rfl
          have qt32 : g27 11 1 = g18 11 1 := P29a 11 1 rfl
          have qt33 : g27 11 13 = g18 11 13 := P29a 11 13 rfl
          have qt34 : g27 11 22 = g18 11 22 := P29a 11 22 rfl
          refine lv_aload_n hx hb dX6_hear_70 rfl (lv_at hl 1 rfl) ?_
          refine lv_iload_n hx hb dX6_hear_71 rfl (lv_at hl 0 rfl) ?_
          refine hp_putx (C := RX6) (T := TX6) (N := 12) (ci := 6) (kd := 1) hx hb hts iX6_hear_X6 hown hK hJ k0 rfl rfl 11 (by decide) (hts (.fieldLink RX6 112 "NeighborBook" "latestFault" "I") (List.mem_of_getElem? (i := 5) rfl)) (fun _ h9 => h9) tyX6 tyX6_ok nmX6 (x := x16) rfl rfl (by decide) hW rfl rfl rfl dX6_hear_72 (fun g35 H locs eg35 ng35 hJ => ?_)
          have eg35 : g35 1 11 = x16.toInt := eg35
          have P36 : hg_P hx_d g g35 := hg_P.put P29 ng35 rfl
          have tt37 : g35 1 1 = g27 1 1 := ng35 1 1 (by decide)
          have tt38 : g35 10 1 = g27 10 1 := ng35 10 1 (by decide)
          have tt39 : g35 4 1 = g27 4 1 := ng35 4 1 (by decide)
          refine lv_iload_n hx hb dX6_hear_75 rfl (lv_at hl 0 rfl) ?_
          exact hp_iret hx hb hK hN hW hlocks hJ hr ⟨P36, (hg_k.ofd hG P36 (by constructor <;> omega) (by constructor <;> omega) (by constructor <;> omega) ), by omega⟩ dX6_hear_76
        · exfalso; omega
      · refine lv_aload_n hx hb dX6_hear_46 rfl (lv_at hl 1 rfl) ?_
        refine lv_iload_n hx hb dX6_hear_47 rfl (lv_at hl 2 rfl) ?_
        refine hp_calli (va_runV (As := [.int p1]) (rest := []) ⟨hx, hb, hml, hown, hts⟩ (c_X6_learn l dC dI dA κ B g18 h0 k0 p1 (hg_k.ofd hG P19 (by constructor <;> omega) (by constructor <;> omega) (by constructor <;> omega) ) (by omega) (by omega)) (cwV 1 hts gX6_hear_X6_learn rfl rfl rfl (by decide +kernel) ⟨Nat.le_of_ble_eq_true rfl, Nat.le_of_ble_eq_true rfl⟩) (hp_preV (q := (RX6, TX6, 12)) [.int p1] hK hN hW hJ k0 rfl rfl) rfl rfl hl.1 rfl (lv_room (Nat.le_of_ble_eq_true rfl)) dX6_hear_48 ⟨Nat.zero_le _, Nat.zero_le _⟩) hJ (fun x41 g40 H locs hp hJ => ?_)
        obtain ⟨P43a, K44⟩ := hp
        obtain ⟨K441, K442, K443, K444, K445, K446, K447, K448⟩ := id K44
        have P43 : hg_P hx_d g g40 := hg_P.tr P19 (P43a.le hx_cd)
        have qt45 : g40 1 1 = g18 1 1 := P43a 1 1 rfl
        have qt46 : g40 11 1 = g18 11 1 := P43a 11 1 rfl
        have qt47 : g40 11 13 = g18 11 13 := P43a 11 13 rfl
        have qt48 : g40 11 22 = g18 11 22 := P43a 11 22 rfl
        refine lv_istore_n (lv' := [(2, .int x41), (0, .ref h0), (1, .int p1)]) hx hb dX6_hear_51 rfl hl (by decide) rfl (fun ls hl => ?_)
        refine lv_aload_n hx hb dX6_hear_52 rfl (lv_at hl 1 rfl) ?_
        refine hp_getr (C := RX6) (T := TX6) (N := 12) (ci := 6) (kd := 1) hx hb hts iX6_hear_X6 hown hK hJ k0 rfl rfl 3 (by decide) (hts (.fieldLink RX6 22 "NeighborBook" "ports" "[LNeighborBook$Port;") (List.mem_of_getElem? (i := 1) rfl)) (fun _ h9 => h9) rfl dX6_hear_53 (fun b49 kb49 => ?_)
        refine lv_iload_n hx hb dX6_hear_56 rfl (lv_at hl 2 rfl) ?_
        refine hp_aald3 (kd := 15) (n := 4) hx hb hK hJ kb49 rfl (by omega) (by omega) (hk_s15 (by omega)) dX6_hear_57 (fun b50 kb50 => ?_)
        refine lv_iload_n hx hb dX6_hear_58 rfl (lv_at hl 0 rfl) ?_
        refine hq_if_ne (tgt := 66) hx hb dX6_hear_59 (by decide) (fun c51 => ?_) (fun c51 => ?_)
        · refine hq_iconst hx hb dX6_hear_66 (by decide) (by decide) (fun z52 ez52 => ?_)
          refine hp_callv (va_runV (As := [.int z52]) (rest := []) ⟨hx, hb, hml, hown, hts⟩ (c_X4_noteHeard l dC dI dA κ B g40 (p1.toInt.toNat) (by omega : p1.toInt.toNat < 4) b50 kb50 z52 K44) (cwV 1 hts gX6_hear_X4_noteHeard rfl rfl rfl (by decide +kernel) ⟨Nat.le_of_ble_eq_true rfl, Nat.le_of_ble_eq_true rfl⟩) (hp_preV (q := (RX4, TX4, 6)) [.int z52] hK hN hW hJ kb50 (hk_t5 (by omega : p1.toInt.toNat < 4)) rfl) rfl rfl hl.1 rfl (lv_room (Nat.le_of_ble_eq_true rfl)) dX6_hear_67 ⟨Nat.zero_le _, Nat.zero_le _⟩) hJ (fun g53 H locs hp hJ => ?_)
          obtain ⟨P55a, K56⟩ := hp
          obtain ⟨K561, K562, K563, K564, K565, K566, K567, K568⟩ := id K56
          have P55 : hg_P hx_d g g53 := hg_P.tr P43 (P55a.le hx_cd)
          have qt57 : g53 1 1 = g40 1 1 := P55a 1 1 rfl
          have qt58 : g53 11 1 = g40 11 1 := P55a 11 1 rfl
          have qt59 : g53 11 13 = g40 11 13 := P55a 11 13 rfl
          have qt60 : g53 11 22 = g40 11 22 := P55a 11 22 rfl
          refine lv_aload_n hx hb dX6_hear_70 rfl (lv_at hl 1 rfl) ?_
          refine lv_iload_n hx hb dX6_hear_71 rfl (lv_at hl 0 rfl) ?_
          refine hp_putx (C := RX6) (T := TX6) (N := 12) (ci := 6) (kd := 1) hx hb hts iX6_hear_X6 hown hK hJ k0 rfl rfl 11 (by decide) (hts (.fieldLink RX6 112 "NeighborBook" "latestFault" "I") (List.mem_of_getElem? (i := 5) rfl)) (fun _ h9 => h9) tyX6 tyX6_ok nmX6 (x := x41) rfl rfl (by decide) hW rfl rfl rfl dX6_hear_72 (fun g61 H locs eg61 ng61 hJ => ?_)
          have eg61 : g61 1 11 = x41.toInt := eg61
          have P62 : hg_P hx_d g g61 := hg_P.put P55 ng61 rfl
          have tt63 : g61 1 1 = g53 1 1 := ng61 1 1 (by decide)
          have tt64 : g61 10 1 = g53 10 1 := ng61 10 1 (by decide)
          have tt65 : g61 4 1 = g53 4 1 := ng61 4 1 (by decide)
          refine lv_iload_n hx hb dX6_hear_75 rfl (lv_at hl 0 rfl) ?_
          exact hp_iret hx hb hK hN hW hlocks hJ hr ⟨P62, (hg_k.ofd hG P62 (by constructor <;> omega) (by constructor <;> omega) (by constructor <;> omega) ), by omega⟩ dX6_hear_76
        · refine hq_iconst hx hb dX6_hear_62 (by decide) (by decide) (fun z66 ez66 => ?_)
          refine lv_goto (tgt := 67) hx hb dX6_hear_63 (by decide) ?_
          refine hp_callv (va_runV (As := [.int z66]) (rest := []) ⟨hx, hb, hml, hown, hts⟩ (c_X4_noteHeard l dC dI dA κ B g40 (p1.toInt.toNat) (by omega : p1.toInt.toNat < 4) b50 kb50 z66 K44) (cwV 1 hts gX6_hear_X4_noteHeard rfl rfl rfl (by decide +kernel) ⟨Nat.le_of_ble_eq_true rfl, Nat.le_of_ble_eq_true rfl⟩) (hp_preV (q := (RX4, TX4, 6)) [.int z66] hK hN hW hJ kb50 (hk_t5 (by omega : p1.toInt.toNat < 4)) rfl) rfl rfl hl.1 rfl (lv_room (Nat.le_of_ble_eq_true rfl)) dX6_hear_67 ⟨Nat.zero_le _, Nat.zero_le _⟩) hJ (fun g67 H locs hp hJ => ?_)
          obtain ⟨P69a, K70⟩ := hp
          obtain ⟨K701, K702, K703, K704, K705, K706, K707, K708⟩ := id K70
          have P69 : hg_P hx_d g g67 := hg_P.tr P43 (P69a.le hx_cd)
          have qt71 : g67 1 1 = g40 1 1 := P69a 1 1 rfl
          have qt72 : g67 11 1 = g40 11 1 := P69a 11 1 rfl
          have qt73 : g67 11 13 = g40 11 13 := P69a 11 13 rfl
          have qt74 : g67 11 22 = g40 11 22 := P69a 11 22 rfl
          refine lv_aload_n hx hb dX6_hear_70 rfl (lv_at hl 1 rfl) ?_
          refine lv_iload_n hx hb dX6_hear_71 rfl (lv_at hl 0 rfl) ?_
          refine hp_putx (C := RX6) (T := TX6) (N := 12) (ci := 6) (kd := 1) hx hb hts iX6_hear_X6 hown hK hJ k0 rfl rfl 11 (by decide) (hts (.fieldLink RX6 112 "NeighborBook" "latestFault" "I") (List.mem_of_getElem? (i := 5) rfl)) (fun _ h9 => h9) tyX6 tyX6_ok nmX6 (x := x41) rfl rfl (by decide) hW rfl rfl rfl dX6_hear_72 (fun g75 H locs eg75 ng75 hJ => ?_)
          have eg75 : g75 1 11 = x41.toInt := eg75
          have P76 : hg_P hx_d g g75 := hg_P.put P69 ng75 rfl
          have tt77 : g75 1 1 = g67 1 1 := ng75 1 1 (by decide)
          have tt78 : g75 10 1 = g67 10 1 := ng75 10 1 (by decide)
          have tt79 : g75 4 1 = g67 4 1 := ng75 4 1 (by decide)
          refine lv_iload_n hx hb dX6_hear_75 rfl (lv_at hl 0 rfl) ?_
          exact hp_iret hx hb hK hN hW hlocks hJ hr ⟨P76, (hg_k.ofd hG P76 (by constructor <;> omega) (by constructor <;> omega) (by constructor <;> omega) ), by omega⟩ dX6_hear_76
    · refine hq_iconst hx hb dX6_hear_19 (by decide) (by decide) (fun z80 ez80 => ?_)
      exact hp_iret hx hb hK hN hW hlocks hJ hr ⟨hg_P.rf, hG, by omega⟩ dX6_hear_20
