theorem iX6_tick_X6 : ∀ w ∈ wsX60, w ∈ wsX6_tick := fun _ h => List.mem_cons_of_mem _ (List.mem_append_left _ (List.mem_append_left _ (List.mem_append_left _ (List.mem_append_left _ (List.mem_append_left _ (List.mem_append_right _ h))))))
theorem iX6_tick_X3 : ∀ w ∈ wsX30, w ∈ wsX6_tick := fun _ h => List.mem_cons_of_mem _ (List.mem_append_left _ (List.mem_append_left _ (List.mem_append_left _ (List.mem_append_left _ (List.mem_append_right _ h)))))
theorem iX6_tick_X2 : ∀ w ∈ wsX20, w ∈ wsX6_tick := fun _ h => List.mem_cons_of_mem _ (List.mem_append_left _ (List.mem_append_left _ (List.mem_append_left _ (List.mem_append_right _ h))))
theorem iX6_tick_X4 : ∀ w ∈ wsX40, w ∈ wsX6_tick := fun _ h => List.mem_cons_of_mem _ (List.mem_append_left _ (List.mem_append_left _ (List.mem_append_right _ h)))
theorem iX6_tick_X5 : ∀ w ∈ wsX50, w ∈ wsX6_tick := fun _ h => List.mem_cons_of_mem _ (List.mem_append_left _ (List.mem_append_right _ h))
theorem iX6_tick_X0 : ∀ w ∈ wsX00, w ∈ wsX6_tick := fun _ h => List.mem_cons_of_mem _ (List.mem_append_right _ h)
set_option maxRecDepth 100000 in
set_option maxHeartbeats 4000000 in
theorem e_X6_tick (l : Launch) (dC : Nat → ClassId) (dI : Nat → Nat → Nat) (dA : Nat → ClassId) (κ : Nat → Nat) (B : Nat) (g : Nat → Nat → Int) (h0 : Nat) (k0 : κ h0 = 1) (n : Int32) (hw : hc_wf g) {up : Nat → Int} (hI : hr_inv (hc_tab g) up) : Met l yX6_tick wsX6_tick ({ frames := 4, cells := 0, slots := 0, locals := 91 } : Room) (he_Pre dC dI dA κ B g [Value.ref h0, Value.int n]) (he_Qi dC dI dA κ B (fun r u => hg_Q (fun a b => (a = 1 ∧ b = 10) ∨ a = 4 ∨ (5 ≤ a ∧ a < 9 ∧ b ≠ 0) ∨ (a = 10 ∧ b = 1) ∨ a = 16 ∨ (300 ≤ a ∧ a < 312 ∧ b = 2)) g u ∧ (((1 ≤ n.toInt ∧ n.toInt ≤ 5000) ∧ hc_wf u ∧ hc_tab u = hr_tks n.toInt.toNat (hc_tab g)) ∨ (¬ (1 ≤ n.toInt ∧ n.toInt ≤ 5000) ∧ g = u)))) 0 0 (hp_A B) := by
  refine Met.ofW (cc := cX6_tick) (maxL := 6) (ret := (some .int)) (by decide) rfl ?_
  intro p e s m args below meth c s₁ Bd hml hv
  obtain ⟨rfl, hK, hN, hW, hF⟩ := hv
  have hx := Bd.exec
  have hb := Bd.bytes
  have hr := Bd.returns
  have hts := atoms_spec (ws := wsX6_tick) Bd.pre
  have hown : s.vm.findClass RX6 = some m.cls := findClass_of_methodNamed Bd.named
  have hlocks := Bd.notSynchronized
  have hJ : he_J dC dI dA κ B g s.heap s.heap [] := ⟨hF, va_S.rf⟩
  have hl := lv_entry ([Value.ref h0, Value.int n]) (n := 6) (Nat.le_of_ble_eq_true rfl)
  rw [lg_entry_eq]
  generalize (lg_sl ([Value.ref h0, Value.int n]) ++ List.replicate (6 - (lg_sl ([Value.ref h0, Value.int n])).length) Slot.unset).toArray = ls at hl ⊢
  have hl : lv_has ls 6 [(0, .ref h0), (1, .int n)] := hl
  refine lv_iload_n hx hb dX6_tick_0 rfl (lv_at hl 1 rfl) ?_
  refine hq_iconst hx hb dX6_tick_1 (by decide) (by decide) (fun z1 ez1 => ?_)
  refine hq_icmp_lt (tgt := 12) hx hb dX6_tick_2 (by decide) (fun c2 => ?_) (fun c2 => ?_)
  · refine hq_iconst hx hb dX6_tick_12 (by decide) (by decide) (fun z3 ez3 => ?_)
    exact he_iret hx hb hK hN hW hlocks hJ hr ⟨hg_Q.rf, Or.inr ⟨by omega, rfl⟩⟩ dX6_tick_13
  · refine lv_iload_n hx hb dX6_tick_5 rfl (lv_at hl 1 rfl) ?_
    refine hq_sipush hx hb dX6_tick_6 (by decide) (fun z4 ez4 => ?_)
    refine hq_icmp_le (tgt := 14) hx hb dX6_tick_9 (by decide) (fun c5 => ?_) (fun c5 => ?_)
    · refine hq_iconst hx hb dX6_tick_14 (by decide) (by decide) (fun z6 ez6 => ?_)
      refine lv_istore_n (lv' := [(2, .int z6), (0, .ref h0), (1, .int n)]) hx hb dX6_tick_15 rfl hl (by decide) rfl (fun ls hl => ?_)
      refine hq_iconst hx hb dX6_tick_16 (by decide) (by decide) (fun z7 ez7 => ?_)
      refine lv_istore_n (lv' := [(3, .int z7), (2, .int z6), (0, .ref h0), (1, .int n)]) hx hb dX6_tick_17 rfl hl (by decide) rfl (fun ls hl => ?_)
      refine hq_iconst hx hb dX6_tick_18 (by decide) (by decide) (fun z8 ez8 => ?_)
      refine lv_istore (lv' := [(4, .int z8), (3, .int z7), (2, .int z6), (0, .ref h0), (1, .int n)]) hx hb dX6_tick_19 hl (by decide) rfl (fun ls hl => ?_)
      have lp13 : ∀ (nlp13 : Nat) (v9 : Int32) (v10 : Int32) (v11 : Int32) (g12 : Nat → Nat → Int) (H : Heap) (locs : List Loc) (ls : Array Slot), (hg_Q (fun a b => (a = 1 ∧ b = 10) ∨ a = 4 ∨ (5 ≤ a ∧ a < 9 ∧ b ≠ 0) ∨ (a = 10 ∧ b = 1) ∨ a = 16 ∨ (300 ≤ a ∧ a < 312 ∧ b = 2)) g g12) → (0 ≤ v11.toInt) → (v11.toInt ≤ n.toInt) → (hc_wf g12) → (hc_tab g12 = hr_tks v11.toInt.toNat (hc_tab g)) → (5001 - v11.toInt < (nlp13 : Int)) → he_J dC dI dA κ B g12 s.heap H locs → lv_has ls 6 [(0, .ref h0), (1, .int n), (2, .int v9), (3, .int v10), (4, .int v11)] → W p l e (headSpec wsX6_tick ({ frames := 4, cells := 0, slots := 0, locals := 91 } : Room)).room s m ([Value.ref h0, Value.int n] : List Value).toArray below meth c H locs 0 0 (MQ below (he_Qi dC dI dA κ B (fun r u => hg_Q (fun a b => (a = 1 ∧ b = 10) ∨ a = 4 ∨ (5 ≤ a ∧ a < 9 ∧ b ≠ 0) ∨ (a = 10 ∧ b = 1) ∨ a = 16 ∨ (300 ≤ a ∧ a < 312 ∧ b = 2)) g u ∧ (((1 ≤ n.toInt ∧ n.toInt ≤ 5000) ∧ hc_wf u ∧ hc_tab u = hr_tks n.toInt.toNat (hc_tab g)) ∨ (¬ (1 ≤ n.toInt ∧ n.toInt ≤ 5000) ∧ g = u)))) ([Value.ref h0, Value.int n] : List Value).toArray s 0 0 (hp_A B)) (F0 m 21 ls []) := by
        intro nlp13
        induction nlp13 with
        | zero => intro v9 v10 v11 g12 H locs ls iv15 iv16 iv17 iv18 iv19 hm14 hJ hl; exact absurd hm14 (by omega)
        | succ nlp13 ihlp13 =>
          intro v9 v10 v11 g12 H locs ls iv15 iv16 iv17 iv18 iv19 hm14 hJ hl
          refine lv_iload hx hb dX6_tick_21 (lv_at hl 4 rfl) ?_
          refine lv_iload_n hx hb dX6_tick_23 rfl (lv_at hl 1 rfl) ?_
          refine hq_icmp_ge (tgt := 91) hx hb dX6_tick_24 (by decide) (fun c20 => ?_) (fun c20 => ?_)
          · refine lv_iload_n hx hb dX6_tick_91 rfl (lv_at hl 3 rfl) ?_
            refine hq_iconst hx hb dX6_tick_92 (by decide) (by decide) (fun z21 ez21 => ?_)
            refine hq_icmp_eq (tgt := 124) hx hb dX6_tick_93 (by decide) (fun c22 => ?_) (fun c22 => ?_)
            · have hwE := iv18
              have hTE : hc_tab g12 = hr_tks n.toInt.toNat (hc_tab g) := by rw [iv19, show v11.toInt.toNat = n.toInt.toNat by omega]
              refine lv_iload_n hx hb dX6_tick_124 rfl (lv_at hl 2 rfl) ?_
              exact he_iret hx hb hK hN hW hlocks hJ hr ⟨iv15, Or.inl ⟨by omega, hwE, hTE⟩⟩ dX6_tick_125
            · refine lv_aload_n hx hb dX6_tick_96 rfl (lv_at hl 0 rfl) ?_
              refine he_getr (C := RX6) (T := TX6) (N := 12) (ci := 6) (kd := 1) hx hb hts iX6_tick_X6 hown hK hJ k0 rfl rfl 6 (by decide) (hts (.fieldLink RX6 43 "NeighborBook" "latest" "LNeighborBook$SentFrame;") (List.mem_of_getElem? (i := 6) rfl)) (fun _ h9 => h9) rfl dX6_tick_97 (fun b23 kb23 => ?_)
              refine lv_iload_n hx hb dX6_tick_100 rfl (lv_at hl 3 rfl) ?_
              refine lv_aload_n hx hb dX6_tick_101 rfl (lv_at hl 0 rfl) ?_
              refine he_getr (C := RX6) (T := TX6) (N := 12) (ci := 6) (kd := 1) hx hb hts iX6_tick_X6 hown hK hJ k0 rfl rfl 2 (by decide) (hts (.fieldLink RX6 16 "NeighborBook" "told" "LNeighborBook$Contents;") (List.mem_of_getElem? (i := 7) rfl)) (fun _ h9 => h9) rfl dX6_tick_102 (fun b24 kb24 => ?_)
              refine lv_aload_n hx hb dX6_tick_105 rfl (lv_at hl 0 rfl) ?_
              refine he_geti (C := RX6) (T := TX6) (N := 12) (ci := 6) (kd := 1) hx hb hts iX6_tick_X6 hown hK hJ k0 rfl rfl 7 (by decide) (hts (.fieldLink RX6 47 "NeighborBook" "interval" "I") (List.mem_of_getElem? (i := 5) rfl)) (fun _ h9 => h9) rfl rfl dX6_tick_106 (fun x25 ex25 => ?_)
              refine lv_aload_n hx hb dX6_tick_109 rfl (lv_at hl 0 rfl) ?_
              refine he_geti (C := RX6) (T := TX6) (N := 12) (ci := 6) (kd := 1) hx hb hts iX6_tick_X6 hown hK hJ k0 rfl rfl 8 (by decide) (hts (.fieldLink RX6 51 "NeighborBook" "hold" "I") (List.mem_of_getElem? (i := 8) rfl)) (fun _ h9 => h9) rfl rfl dX6_tick_110 (fun x26 ex26 => ?_)
              refine hq_imulU hx hb dX6_tick_113 (fun x27 => ?_)
              refine hq_iconst hx hb dX6_tick_114 (by decide) (by decide) (fun z28 ez28 => ?_)
              refine hq_iaddU hx hb dX6_tick_115 (fun x29 => ?_)
              refine lv_ldc hx hb hown (hts (.constant RX6 124 (65535)) (List.mem_of_getElem? (i := 9) rfl)) dX6_tick_116 ?_
              refine lv_topi (fun z30 fz30 => ?_)
              have ez30 : z30.toInt = 65535 := by rw [fz30]; rfl
              refine va_mmin hx hb (hml.trans hl.1.symm) hown (hts (.methodLink RX6 125 Lib.Math.min.name) (List.mem_of_getElem? (i := 10) rfl)) (hts (.static Lib.Math.min.name) (List.mem_of_getElem? (i := 11) rfl)) (hts (.initialized "java/lang/Math") (List.mem_of_getElem? (i := 12) rfl)) (hts (.code Lib.Math.min.name Lib.Math.min.code 2 (some .int)) (List.mem_of_getElem? (i := 13) rfl)) (Nat.le_of_ble_eq_true rfl) (Nat.le_of_ble_eq_true rfl) (Nat.zero_le _) (Nat.zero_le _) dX6_tick_118 ?_
              refine lv_topi (fun x31 _ => ?_)
              refine he_callv (va_runV (As := [.int v10, .ref b24, .int x31]) (rest := []) ⟨hx, hb, hml, hown, hts⟩ (e_X5_write l dC dI dA κ B g12 (13) (by omega) b23 kb23 v10 b24 kb24 x31) (cwV 3 hts gX6_tick_X5_write rfl rfl rfl (by decide +kernel) ⟨Nat.le_of_ble_eq_true rfl, Nat.le_of_ble_eq_true rfl⟩) (he_preV (q := (RX5, TX5, 3)) [.int v10, .ref b24, .int x31] hK hN hW hJ kb23 rfl rfl) rfl rfl hl.1 rfl (lv_room (Nat.le_of_ble_eq_true rfl)) dX6_tick_121 ⟨Nat.zero_le _, Nat.zero_le _⟩) hJ (fun g32 H locs hp hJ => ?_)
              have P34a := hp
              have P34 : hg_Q (fun a b => (a = 1 ∧ b = 10) ∨ a = 4 ∨ (5 ≤ a ∧ a < 9 ∧ b ≠ 0) ∨ (a = 10 ∧ b = 1) ∨ a = 16 ∨ (300 ≤ a ∧ a < 312 ∧ b = 2)) g g32 := hg_Q.tr iv15 (hg_Q.le P34a (fun a b h9 => by have h9 : a = 4 := h9; show (a = 1 ∧ b = 10) ∨ a = 4 ∨ (5 ≤ a ∧ a < 9 ∧ b ≠ 0) ∨ (a = 10 ∧ b = 1) ∨ a = 16 ∨ (300 ≤ a ∧ a < 312 ∧ b = 2); omega))
              obtain ⟨hT9, hwE⟩ := hc_tab_same iv18 (fun a b h9 => P34a a b (fun h8 => by have h8 : a = 4 := h8; unfold hc_f at h9; omega))
              have hTE : hc_tab g32 = hr_tks n.toInt.toNat (hc_tab g) := by rw [hT9, iv19, show v11.toInt.toNat = n.toInt.toNat by omega]
              refine lv_iload_n hx hb dX6_tick_124 rfl (lv_at hl 2 rfl) ?_
              exact he_iret hx hb hK hN hW hlocks hJ hr ⟨P34, Or.inl ⟨by omega, hwE, hTE⟩⟩ dX6_tick_125
          · refine lv_aload_n hx hb dX6_tick_27 rfl (lv_at hl 0 rfl) ?_
            refine lv_aload_n hx hb dX6_tick_28 rfl (lv_at hl 0 rfl) ?_
            refine he_geti (C := RX6) (T := TX6) (N := 12) (ci := 6) (kd := 1) hx hb hts iX6_tick_X6 hown hK hJ k0 rfl rfl 10 (by decide) (hts (.fieldLink RX6 115 "NeighborBook" "ticks" "I") (List.mem_of_getElem? (i := 1) rfl)) (fun _ h9 => h9) rfl rfl dX6_tick_29 (fun x35 ex35 => ?_)
            have ex35 : x35.toInt = g12 1 10 := ex35
            refine hq_iconst hx hb dX6_tick_32 (by decide) (by decide) (fun z36 ez36 => ?_)
            refine hq_iaddU hx hb dX6_tick_33 (fun x37 => ?_)
            refine lv_ldc hx hb hown (hts (.constant RX6 118 (2147483647)) (List.mem_of_getElem? (i := 2) rfl)) dX6_tick_34 ?_
            refine lv_topi (fun z38 fz38 => ?_)
            have ez38 : z38.toInt = 2147483647 := by rw [fz38]; rfl
            refine hq_iandU hx hb dX6_tick_36 (fun x39 => ?_)
            refine he_putx (C := RX6) (T := TX6) (N := 12) (ci := 6) (kd := 1) hx hb hts iX6_tick_X6 hown hK hJ k0 rfl rfl 10 (by decide) (hts (.fieldLink RX6 115 "NeighborBook" "ticks" "I") (List.mem_of_getElem? (i := 1) rfl)) (fun _ h9 => h9) tyX6 tyX6_ok nmX6 (x := x39) rfl rfl (by decide) hW rfl rfl rfl rfl rfl dX6_tick_37 (fun g40 H locs eg40 ng40 hJ => ?_)
            have eg40 : g40 1 10 = x39.toInt := eg40
            have P41 : hg_Q (fun a b => (a = 1 ∧ b = 10) ∨ a = 4 ∨ (5 ≤ a ∧ a < 9 ∧ b ≠ 0) ∨ (a = 10 ∧ b = 1) ∨ a = 16 ∨ (300 ≤ a ∧ a < 312 ∧ b = 2)) g g40 := hg_Q.put iv15 ng40 (show (1 = 1 ∧ 10 = 10) ∨ 1 = 4 ∨ (5 ≤ 1 ∧ 1 < 9 ∧ 10 ≠ 0) ∨ (1 = 10 ∧ 10 = 1) ∨ 1 = 16 ∨ (300 ≤ 1 ∧ 1 < 312 ∧ 10 = 2) from by omega)
            obtain ⟨hT0, hW0⟩ := hc_tab_same iv18 (fun a b h9 => ng40 a b (by unfold hc_f at h9; omega))
            refine lv_aload_n hx hb dX6_tick_40 rfl (lv_at hl 0 rfl) ?_
            refine he_getr (C := RX6) (T := TX6) (N := 12) (ci := 6) (kd := 1) hx hb hts iX6_tick_X6 hown hK hJ k0 rfl rfl 4 (by decide) (hts (.fieldLink RX6 29 "NeighborBook" "known" "LNeighborBook$Neighbors;") (List.mem_of_getElem? (i := 3) rfl)) (fun _ h9 => h9) rfl dX6_tick_41 (fun b42 kb42 => ?_)
            refine he_callv (va_runV (As := []) (rest := []) ⟨hx, hb, hml, hown, hts⟩ (e_X3_passTick l dC dI dA κ B g40 b42 kb42 hW0 (fun r hr => by rw [hT0, iv19] at hr; exact (hI.tks _).1 r hr |>.2.2.2)) (cwV 0 hts gX6_tick_X3_passTick rfl rfl rfl (by decide +kernel) ⟨Nat.le_of_ble_eq_true rfl, Nat.le_of_ble_eq_true rfl⟩) (he_preV (q := (RX3, TX3, 2)) [] hK hN hW hJ kb42 rfl rfl) rfl rfl hl.1 rfl (lv_room (Nat.le_of_ble_eq_true rfl)) dX6_tick_44 ⟨Nat.zero_le _, Nat.zero_le _⟩) hJ (fun g43 H locs hp hJ => ?_)
            obtain ⟨P45a, f44⟩ := hp
            have P45 : hg_Q (fun a b => (a = 1 ∧ b = 10) ∨ a = 4 ∨ (5 ≤ a ∧ a < 9 ∧ b ≠ 0) ∨ (a = 10 ∧ b = 1) ∨ a = 16 ∨ (300 ≤ a ∧ a < 312 ∧ b = 2)) g g43 := hg_Q.tr P41 (hg_Q.le P45a (fun a b h9 => by have h9 : (a = 10 ∧ b = 1) ∨ a = 16 ∨ (300 ≤ a ∧ a < 312 ∧ b = 2) := h9; show (a = 1 ∧ b = 10) ∨ a = 4 ∨ (5 ≤ a ∧ a < 9 ∧ b ≠ 0) ∨ (a = 10 ∧ b = 1) ∨ a = 16 ∨ (300 ≤ a ∧ a < 312 ∧ b = 2); omega))
            have hW1 := f44.1
            have hT1 : hc_tab g43 = hr_tks (v11.toInt.toNat + 1) (hc_tab g) := by rw [f44.2, hT0, iv19]; rfl
            refine hq_iconst hx hb dX6_tick_47 (by decide) (by decide) (fun z46 ez46 => ?_)
            refine lv_istore (lv' := [(5, .int z46), (0, .ref h0), (1, .int n), (2, .int v9), (3, .int v10), (4, .int v11)]) hx hb dX6_tick_48 hl (by decide) rfl (fun ls hl => ?_)
            have lp51 : ∀ (nlp51 : Nat) (v47 : Int32) (v48 : Int32) (v49 : Int32) (g50 : Nat → Nat → Int) (H : Heap) (locs : List Loc) (ls : Array Slot), (hg_Q (fun a b => (a = 1 ∧ b = 10) ∨ a = 4 ∨ (5 ≤ a ∧ a < 9 ∧ b ≠ 0) ∨ (a = 10 ∧ b = 1) ∨ a = 16 ∨ (300 ≤ a ∧ a < 312 ∧ b = 2)) g g50) → (0 ≤ v49.toInt) → (v49.toInt ≤ 4) → (hc_wf g50) → (hc_tab g50 = hr_tks (v11.toInt.toNat + 1) (hc_tab g)) → (5 - v49.toInt < (nlp51 : Int)) → he_J dC dI dA κ B g50 s.heap H locs → lv_has ls 6 [(0, .ref h0), (1, .int n), (2, .int v47), (3, .int v48), (4, .int v11), (5, .int v49)] → W p l e (headSpec wsX6_tick ({ frames := 4, cells := 0, slots := 0, locals := 91 } : Room)).room s m ([Value.ref h0, Value.int n] : List Value).toArray below meth c H locs 0 0 (MQ below (he_Qi dC dI dA κ B (fun r u => hg_Q (fun a b => (a = 1 ∧ b = 10) ∨ a = 4 ∨ (5 ≤ a ∧ a < 9 ∧ b ≠ 0) ∨ (a = 10 ∧ b = 1) ∨ a = 16 ∨ (300 ≤ a ∧ a < 312 ∧ b = 2)) g u ∧ (((1 ≤ n.toInt ∧ n.toInt ≤ 5000) ∧ hc_wf u ∧ hc_tab u = hr_tks n.toInt.toNat (hc_tab g)) ∨ (¬ (1 ≤ n.toInt ∧ n.toInt ≤ 5000) ∧ g = u)))) ([Value.ref h0, Value.int n] : List Value).toArray s 0 0 (hp_A B)) (F0 m 50 ls []) := by
              intro nlp51
              induction nlp51 with
              | zero => intro v47 v48 v49 g50 H locs ls iv53 iv54 iv55 iv56 iv57 hm52 hJ hl; exact absurd hm52 (by omega)
              | succ nlp51 ihlp51 =>
                intro v47 v48 v49 g50 H locs ls iv53 iv54 iv55 iv56 iv57 hm52 hJ hl
                refine lv_iload hx hb dX6_tick_50 (lv_at hl 5 rfl) ?_
                refine hq_iconst hx hb dX6_tick_52 (by decide) (by decide) (fun z58 ez58 => ?_)
                refine hq_icmp_ge (tgt := 85) hx hb dX6_tick_53 (by decide) (fun c59 => ?_) (fun c59 => ?_)
                · have hwn := iv56
                  have hTn := iv57
                  refine hq_iinc (k := 4) (lv' := fun (z9 : Int32) => [(4, .int z9), (0, .ref h0), (1, .int n), (2, .int v47), (3, .int v48), (5, .int v49)]) hx hb dX6_tick_85 hl rfl (by decide) (by decide) (by omega) (by omega) (by decide) (fun _ => rfl) (fun x60 ls ex60 hl => ?_)
                  have hl : lv_has ls 6 [(4, .int x60), (0, .ref h0), (1, .int n), (2, .int v47), (3, .int v48), (5, .int v49)] := hl
                  refine lv_goto (tgt := 21) hx hb dX6_tick_88 (by decide) ?_
                  exact ihlp13 v47 v48 x60 g50 _ _ ls iv53 (by omega) (by omega) hwn (by rw [show x60.toInt.toNat = v11.toInt.toNat + 1 by omega]; exact hTn) (by omega) hJ (lv_sub hl [1, 2, 3, 4, 0] rfl)
                · refine lv_aload_n hx hb dX6_tick_56 rfl (lv_at hl 0 rfl) ?_
                  refine he_getr (C := RX6) (T := TX6) (N := 12) (ci := 6) (kd := 1) hx hb hts iX6_tick_X6 hown hK hJ k0 rfl rfl 3 (by decide) (hts (.fieldLink RX6 22 "NeighborBook" "ports" "[LNeighborBook$Port;") (List.mem_of_getElem? (i := 4) rfl)) (fun _ h9 => h9) rfl dX6_tick_57 (fun b61 kb61 => ?_)
                  refine lv_iload hx hb dX6_tick_60 (lv_at hl 5 rfl) ?_
                  refine he_aald3 (kd := 15) (n := 4) hx hb hK hJ kb61 rfl (by omega) (by omega) (he_s15 (by omega)) dX6_tick_62 (fun b62 kb62 => ?_)
                  refine lv_aload_n hx hb dX6_tick_63 rfl (lv_at hl 0 rfl) ?_
                  refine he_geti (C := RX6) (T := TX6) (N := 12) (ci := 6) (kd := 1) hx hb hts iX6_tick_X6 hown hK hJ k0 rfl rfl 7 (by decide) (hts (.fieldLink RX6 47 "NeighborBook" "interval" "I") (List.mem_of_getElem? (i := 5) rfl)) (fun _ h9 => h9) rfl rfl dX6_tick_64 (fun x63 ex63 => ?_)
                  refine he_calli (va_runV (As := [.int x63]) (rest := []) ⟨hx, hb, hml, hown, hts⟩ (e_X4_passTick l dC dI dA κ B g50 (v49.toInt.toNat) (by omega) b62 kb62 x63) (cwV 1 hts gX6_tick_X4_passTick rfl rfl rfl (by decide +kernel) ⟨Nat.le_of_ble_eq_true rfl, Nat.le_of_ble_eq_true rfl⟩) (he_preV (q := (RX4, TX4, 6)) [.int x63] hK hN hW hJ kb62 (hk_t5 (by omega)) rfl) rfl rfl hl.1 rfl (lv_room (Nat.le_of_ble_eq_true rfl)) dX6_tick_67 ⟨Nat.zero_le _, Nat.zero_le _⟩) hJ (fun x65 g64 H locs hp hJ => ?_)
                  obtain ⟨P67a, f66⟩ := hp
                  have P67 : hg_Q (fun a b => (a = 1 ∧ b = 10) ∨ a = 4 ∨ (5 ≤ a ∧ a < 9 ∧ b ≠ 0) ∨ (a = 10 ∧ b = 1) ∨ a = 16 ∨ (300 ≤ a ∧ a < 312 ∧ b = 2)) g g64 := hg_Q.tr iv53 (hg_Q.le P67a (fun a b h9 => by have h9 : a = 5 + v49.toInt.toNat ∧ b ≠ 0 := h9; show (a = 1 ∧ b = 10) ∨ a = 4 ∨ (5 ≤ a ∧ a < 9 ∧ b ≠ 0) ∨ (a = 10 ∧ b = 1) ∨ a = 16 ∨ (300 ≤ a ∧ a < 312 ∧ b = 2); omega))
                  obtain ⟨hT3, hW3⟩ := hc_tab_same iv56 (fun a b h9 => P67a a b (fun h8 => by have h8 : a = 5 + v49.toInt.toNat ∧ b ≠ 0 := h8; unfold hc_f at h9; omega))
                  refine hq_if_eq (tgt := 79) hx hb dX6_tick_70 (by decide) (fun c68 => ?_) (fun c68 => ?_)
                  · refine hq_iinc (k := 5) (lv' := fun (z9 : Int32) => [(5, .int z9), (0, .ref h0), (1, .int n), (2, .int v47), (3, .int v48), (4, .int v11)]) hx hb dX6_tick_79 hl rfl (by decide) (by decide) (by omega) (by omega) (by decide) (fun _ => rfl) (fun x69 ls ex69 hl => ?_)
                    have hl : lv_has ls 6 [(5, .int x69), (0, .ref h0), (1, .int n), (2, .int v47), (3, .int v48), (4, .int v11)] := hl
                    refine lv_goto (tgt := 50) hx hb dX6_tick_82 (by decide) ?_
                    exact ihlp51 v47 v48 x69 g64 _ _ ls P67 (by omega) (by omega) hW3 (hT3.trans iv57) (by omega) hJ (lv_sub hl [1, 2, 3, 4, 5, 0] rfl)
                  · refine hq_iincU (k := 2) (lv' := fun (z9 : Int32) => [(2, .int z9), (0, .ref h0), (1, .int n), (3, .int v48), (4, .int v11), (5, .int v49)]) hx hb dX6_tick_73 hl rfl (by decide) (fun _ => rfl) (fun x70 ls hl => ?_)
                    have hl : lv_has ls 6 [(2, .int x70), (0, .ref h0), (1, .int n), (3, .int v48), (4, .int v11), (5, .int v49)] := hl
                    refine lv_iload hx hb dX6_tick_76 (lv_at hl 5 rfl) ?_
                    refine lv_istore_n (lv' := [(3, .int v49), (2, .int x70), (0, .ref h0), (1, .int n), (4, .int v11), (5, .int v49)]) hx hb dX6_tick_78 rfl hl (by decide) rfl (fun ls hl => ?_)
                    refine hq_iinc (k := 5) (lv' := fun (z9 : Int32) => [(5, .int z9), (3, .int v49), (2, .int x70), (0, .ref h0), (1, .int n), (4, .int v11)]) hx hb dX6_tick_79 hl rfl (by decide) (by decide) (by omega) (by omega) (by decide) (fun _ => rfl) (fun x71 ls ex71 hl => ?_)
                    have hl : lv_has ls 6 [(5, .int x71), (3, .int v49), (2, .int x70), (0, .ref h0), (1, .int n), (4, .int v11)] := hl
                    refine lv_goto (tgt := 50) hx hb dX6_tick_82 (by decide) ?_
                    exact ihlp51 x70 v49 x71 g64 _ _ ls P67 (by omega) (by omega) hW3 (hT3.trans iv57) (by omega) hJ (lv_sub hl [3, 4, 2, 1, 5, 0] rfl)
            exact lp51 ((5 - z46.toInt).toNat + 1) v9 v10 z46 g43 _ _ ls P45 (by omega) (by omega) hW1 hT1 (by omega) hJ (lv_sub hl [1, 2, 3, 4, 5, 0] rfl)
      exact lp13 ((5001 - z8.toInt).toNat + 1) z6 z7 z8 g _ _ ls hg_Q.rf (by omega) (by omega) hw (by rw [show z8.toInt.toNat = 0 by omega]; rfl) (by omega) hJ (lv_sub hl [3, 4, 2, 1, 0] rfl)
    · refine hq_iconst hx hb dX6_tick_12 (by decide) (by decide) (fun z72 ez72 => ?_)
      exact he_iret hx hb hK hN hW hlocks hJ hr ⟨hg_Q.rf, Or.inr ⟨by omega, rfl⟩⟩ dX6_tick_13
