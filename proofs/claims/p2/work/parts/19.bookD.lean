theorem iX6_tick_X6 : ∀ w ∈ wsX60, w ∈ wsX6_tick := fun _ h => List.mem_cons_of_mem _ (List.mem_append_left _ (List.mem_append_left _ (List.mem_append_left _ (List.mem_append_left _ (List.mem_append_left _ (List.mem_append_right _ h))))))
theorem iX6_tick_X3 : ∀ w ∈ wsX30, w ∈ wsX6_tick := fun _ h => List.mem_cons_of_mem _ (List.mem_append_left _ (List.mem_append_left _ (List.mem_append_left _ (List.mem_append_left _ (List.mem_append_right _ h)))))
theorem iX6_tick_X2 : ∀ w ∈ wsX20, w ∈ wsX6_tick := fun _ h => List.mem_cons_of_mem _ (List.mem_append_left _ (List.mem_append_left _ (List.mem_append_left _ (List.mem_append_right _ h))))
theorem iX6_tick_X4 : ∀ w ∈ wsX40, w ∈ wsX6_tick := fun _ h => List.mem_cons_of_mem _ (List.mem_append_left _ (List.mem_append_left _ (List.mem_append_right _ h)))
theorem iX6_tick_X5 : ∀ w ∈ wsX50, w ∈ wsX6_tick := fun _ h => List.mem_cons_of_mem _ (List.mem_append_left _ (List.mem_append_right _ h))
theorem iX6_tick_X0 : ∀ w ∈ wsX00, w ∈ wsX6_tick := fun _ h => List.mem_cons_of_mem _ (List.mem_append_right _ h)
set_option maxRecDepth 100000 in
set_option maxHeartbeats 4000000 in
theorem c_X6_tick (l : Launch) (dC : Nat → ClassId) (dI : Nat → Nat → Nat) (dA : Nat → ClassId) (κ : Nat → Nat) (B : Nat) (g : Nat → Nat → Int) (h0 : Nat) (k0 : κ h0 = 1) (n : Int32) (hG : hg_k g) : Met l yX6_tick wsX6_tick ({ frames := 4, cells := 0, slots := 0, locals := 91 } : Room) (hp_Pre dC dI dA κ B g [Value.ref h0, Value.int n]) (hp_Qi dC dI dA κ B (fun r u => hg_P hx_c g u ∧ hg_k u ∧ (((1 ≤ n.toInt ∧ n.toInt ≤ 5000) ∧ ((∀ j : Nat, j < 4 → g (5 + j) 0 = 0) → r.toInt = 0)) ∨ (¬ (1 ≤ n.toInt ∧ n.toInt ≤ 5000) ∧ r.toInt = -1)))) 0 0 (hp_A B) := by
  refine Met.ofW (cc := cX6_tick) (maxL := 6) (ret := (some .int)) (by decide) rfl ?_
  intro p e s m args below meth c s₁ Bd hml hv
  obtain ⟨rfl, hK, hN, hW, hF⟩ := hv
  have hx := Bd.exec
  have hb := Bd.bytes
  have hr := Bd.returns
  have hts := atoms_spec (ws := wsX6_tick) Bd.pre
  have hown : s.vm.findClass RX6 = some m.cls := findClass_of_methodNamed Bd.named
  have hlocks := Bd.notSynchronized
  have hJ : hp_J dC dI dA κ B g s.heap s.heap [] := ⟨hF, va_S.rf⟩
  have hl := lv_entry ([Value.ref h0, Value.int n]) (n := 6) (Nat.le_of_ble_eq_true rfl)
  rw [lg_entry_eq]
  generalize (lg_sl ([Value.ref h0, Value.int n]) ++ List.replicate (6 - (lg_sl ([Value.ref h0, Value.int n])).length) Slot.unset).toArray = ls at hl ⊢
  have hl : lv_has ls 6 [(0, .ref h0), (1, .int n)] := hl
  obtain ⟨hG1, hG2, hG3, hG4, hG5, hG6, hG7, hG8⟩ := id hG
  obtain ⟨dn, hdn⟩ : ∃ dn : Int, ((∀ j : Nat, j < 4 → g (5 + j) 0 = 0) → dn = 0) ∧ (dn = 0 → ∀ j : Nat, j < 4 → g (5 + j) 0 = 0) := by
    rcases Classical.em (∀ j : Nat, j < 4 → g (5 + j) 0 = 0) with h | h
    · exact ⟨0, fun _ => rfl, fun _ => h⟩
    · exact ⟨1, fun h2 => absurd h2 h, fun h2 => absurd h2 (by decide)⟩
  refine lv_iload_n hx hb dX6_tick_0 rfl (lv_at hl 1 rfl) ?_
  refine hq_iconst hx hb dX6_tick_1 (by decide) (by decide) (fun z1 ez1 => ?_)
  refine hq_icmp_lt (tgt := 12) hx hb dX6_tick_2 (by decide) (fun c2 => ?_) (fun c2 => ?_)
  · refine hq_iconst hx hb dX6_tick_12 (by decide) (by decide) (fun z3 ez3 => ?_)
    exact hp_iret hx hb hK hN hW hlocks hJ hr ⟨hg_P.rf, hG, by first | exact Or.inl ⟨by omega, fun h9 => by have := hdn.1 h9; omega⟩ | exact Or.inr ⟨by omega, by omega⟩⟩ dX6_tick_13
  · refine lv_iload_n hx hb dX6_tick_5 rfl (lv_at hl 1 rfl) ?_
    refine hq_sipush hx hb dX6_tick_6 (by decide) (fun z4 ez4 => ?_)
    refine hq_icmp_le (tgt := 14) hx hb dX6_tick_9 (by decide) (fun c5 => ?_) (fun c5 => ?_)
    · refine hq_iconst hx hb dX6_tick_14 (by decide) (by decide) (fun z6 ez6 => ?_)
      refine lv_istore_n (lv' := [(2, .int z6), (0, .ref h0), (1, .int n)]) hx hb dX6_tick_15 rfl hl (by decide) rfl (fun ls hl => ?_)
      refine hq_iconst hx hb dX6_tick_16 (by decide) (by decide) (fun z7 ez7 => ?_)
      refine lv_istore_n (lv' := [(3, .int z7), (2, .int z6), (0, .ref h0), (1, .int n)]) hx hb dX6_tick_17 rfl hl (by decide) rfl (fun ls hl => ?_)
      refine hq_iconst hx hb dX6_tick_18 (by decide) (by decide) (fun z8 ez8 => ?_)
      refine lv_istore (lv' := [(4, .int z8), (3, .int z7), (2, .int z6), (0, .ref h0), (1, .int n)]) hx hb dX6_tick_19 hl (by decide) rfl (fun ls hl => ?_)
      have lp13 : ∀ (nlp13 : Nat) (v9 : Int32) (v10 : Int32) (v11 : Int32) (g12 : Nat → Nat → Int) (H : Heap) (locs : List Loc) (ls : Array Slot), (hg_P hx_c g g12) → (hg_k g12) → (0 ≤ v11.toInt) → (v11.toInt ≤ n.toInt) → (dn = 0 → v9.toInt = 0) → (5001 - v11.toInt < (nlp13 : Int)) → hp_J dC dI dA κ B g12 s.heap H locs → lv_has ls 6 [(0, .ref h0), (1, .int n), (2, .int v9), (3, .int v10), (4, .int v11)] → W p l e (headSpec wsX6_tick ({ frames := 4, cells := 0, slots := 0, locals := 91 } : Room)).room s m ([Value.ref h0, Value.int n] : List Value).toArray below meth c H locs 0 0 (MQ below (hp_Qi dC dI dA κ B (fun r u => hg_P hx_c g u ∧ hg_k u ∧ (((1 ≤ n.toInt ∧ n.toInt ≤ 5000) ∧ ((∀ j : Nat, j < 4 → g (5 + j) 0 = 0) → r.toInt = 0)) ∨ (¬ (1 ≤ n.toInt ∧ n.toInt ≤ 5000) ∧ r.toInt = -1)))) ([Value.ref h0, Value.int n] : List Value).toArray s 0 0 (hp_A B)) (F0 m 21 ls []) := by
        intro nlp13
        induction nlp13 with
        | zero => intro v9 v10 v11 g12 H locs ls iv15 iv16 iv17 iv18 iv19 hm14 hJ hl; exact absurd hm14 (by omega)
        | succ nlp13 ihlp13 =>
          intro v9 v10 v11 g12 H locs ls iv15 iv16 iv17 iv18 iv19 hm14 hJ hl
          obtain ⟨hG1, hG2, hG3, hG4, hG5, hG6, hG7, hG8⟩ := id iv16
          refine lv_iload hx hb dX6_tick_21 (lv_at hl 4 rfl) ?_
          refine lv_iload_n hx hb dX6_tick_23 rfl (lv_at hl 1 rfl) ?_
          refine hq_icmp_ge (tgt := 91) hx hb dX6_tick_24 (by decide) (fun c20 => ?_) (fun c20 => ?_)
          · refine lv_iload_n hx hb dX6_tick_91 rfl (lv_at hl 3 rfl) ?_
            refine hq_iconst hx hb dX6_tick_92 (by decide) (by decide) (fun z21 ez21 => ?_)
            refine hq_icmp_eq (tgt := 124) hx hb dX6_tick_93 (by decide) (fun c22 => ?_) (fun c22 => ?_)
            · refine lv_iload_n hx hb dX6_tick_124 rfl (lv_at hl 2 rfl) ?_
              exact hp_iret hx hb hK hN hW hlocks hJ hr ⟨iv15, iv16, by first | exact Or.inl ⟨by omega, fun h9 => by have := hdn.1 h9; omega⟩ | exact Or.inr ⟨by omega, by omega⟩⟩ dX6_tick_125
            · refine lv_aload_n hx hb dX6_tick_96 rfl (lv_at hl 0 rfl) ?_
              refine hp_getr (C := RX6) (T := TX6) (N := 12) (ci := 6) (kd := 1) hx hb hts iX6_tick_X6 hown hK hJ k0 rfl rfl 6 (by decide) (hts (.fieldLink RX6 43 "NeighborBook" "latest" "LNeighborBook$SentFrame;") (List.mem_of_getElem? (i := 6) rfl)) (fun _ h9 => h9) rfl dX6_tick_97 (fun b23 kb23 => ?_)
              refine lv_iload_n hx hb dX6_tick_100 rfl (lv_at hl 3 rfl) ?_
              refine lv_aload_n hx hb dX6_tick_101 rfl (lv_at hl 0 rfl) ?_
              refine hp_getr (C := RX6) (T := TX6) (N := 12) (ci := 6) (kd := 1) hx hb hts iX6_tick_X6 hown hK hJ k0 rfl rfl 2 (by decide) (hts (.fieldLink RX6 16 "NeighborBook" "told" "LNeighborBook$Contents;") (List.mem_of_getElem? (i := 7) rfl)) (fun _ h9 => h9) rfl dX6_tick_102 (fun b24 kb24 => ?_)
              refine lv_aload_n hx hb dX6_tick_105 rfl (lv_at hl 0 rfl) ?_
              refine hp_geti (C := RX6) (T := TX6) (N := 12) (ci := 6) (kd := 1) hx hb hts iX6_tick_X6 hown hK hJ k0 rfl rfl 7 (by decide) (hts (.fieldLink RX6 47 "NeighborBook" "interval" "I") (List.mem_of_getElem? (i := 5) rfl)) (fun _ h9 => h9) rfl rfl dX6_tick_106 (fun x25 ex25 => ?_)
              refine lv_aload_n hx hb dX6_tick_109 rfl (lv_at hl 0 rfl) ?_
              refine hp_geti (C := RX6) (T := TX6) (N := 12) (ci := 6) (kd := 1) hx hb hts iX6_tick_X6 hown hK hJ k0 rfl rfl 8 (by decide) (hts (.fieldLink RX6 51 "NeighborBook" "hold" "I") (List.mem_of_getElem? (i := 8) rfl)) (fun _ h9 => h9) rfl rfl dX6_tick_110 (fun x26 ex26 => ?_)
              refine hq_imulU hx hb dX6_tick_113 (fun x27 => ?_)
              refine hq_iconst hx hb dX6_tick_114 (by decide) (by decide) (fun z28 ez28 => ?_)
              refine hq_iaddU hx hb dX6_tick_115 (fun x29 => ?_)
              refine lv_ldc hx hb hown (hts (.constant RX6 124 (65535)) (List.mem_of_getElem? (i := 9) rfl)) dX6_tick_116 ?_
              refine lv_topi (fun z30 fz30 => ?_)
              have ez30 : z30.toInt = 65535 := by rw [fz30]; rfl
              refine va_mmin hx hb (hml.trans hl.1.symm) hown (hts (.methodLink RX6 125 Lib.Math.min.name) (List.mem_of_getElem? (i := 10) rfl)) (hts (.static Lib.Math.min.name) (List.mem_of_getElem? (i := 11) rfl)) (hts (.initialized "java/lang/Math") (List.mem_of_getElem? (i := 12) rfl)) (hts (.code Lib.Math.min.name Lib.Math.min.code 2 (some .int)) (List.mem_of_getElem? (i := 13) rfl)) (Nat.le_of_ble_eq_true rfl) (Nat.le_of_ble_eq_true rfl) (Nat.zero_le _) (Nat.zero_le _) dX6_tick_118 ?_
              refine lv_topi (fun x31 _ => ?_)
              refine hp_callv (va_runV (As := [.int v10, .ref b24, .int x31]) (rest := []) ⟨hx, hb, hml, hown, hts⟩ (c_X5_write l dC dI dA κ B g12 b23 kb23 v10 b24 kb24 x31 iv16) (cwV 3 hts gX6_tick_X5_write rfl rfl rfl (by decide +kernel) ⟨Nat.le_of_ble_eq_true rfl, Nat.le_of_ble_eq_true rfl⟩) (hp_preV (q := (RX5, TX5, 3)) [.int v10, .ref b24, .int x31] hK hN hW hJ kb23 rfl rfl) rfl rfl hl.1 rfl (lv_room (Nat.le_of_ble_eq_true rfl)) dX6_tick_121 ⟨Nat.zero_le _, Nat.zero_le _⟩) hJ (fun g32 H locs hp hJ => ?_)
              obtain ⟨P34a, K35⟩ := hp
              obtain ⟨K351, K352, K353, K354, K355, K356, K357, K358⟩ := id K35
              have P34 : hg_P hx_c g g32 := hg_P.tr iv15 P34a
              have qt36 : g32 1 1 = g12 1 1 := P34a 1 1 rfl
              have qt37 : g32 11 1 = g12 11 1 := P34a 11 1 rfl
              have qt38 : g32 11 13 = g12 11 13 := P34a 11 13 rfl
              have qt39 : g32 11 22 = g12 11 22 := P34a 11 22 rfl
              refine lv_iload_n hx hb dX6_tick_124 rfl (lv_at hl 2 rfl) ?_
              exact hp_iret hx hb hK hN hW hlocks hJ hr ⟨P34, K35, by first | exact Or.inl ⟨by omega, fun h9 => by have := hdn.1 h9; omega⟩ | exact Or.inr ⟨by omega, by omega⟩⟩ dX6_tick_125
          · refine lv_aload_n hx hb dX6_tick_27 rfl (lv_at hl 0 rfl) ?_
            refine lv_aload_n hx hb dX6_tick_28 rfl (lv_at hl 0 rfl) ?_
            refine hp_geti (C := RX6) (T := TX6) (N := 12) (ci := 6) (kd := 1) hx hb hts iX6_tick_X6 hown hK hJ k0 rfl rfl 10 (by decide) (hts (.fieldLink RX6 115 "NeighborBook" "ticks" "I") (List.mem_of_getElem? (i := 1) rfl)) (fun _ h9 => h9) rfl rfl dX6_tick_29 (fun x40 ex40 => ?_)
            have ex40 : x40.toInt = g12 1 10 := ex40
            refine hq_iconst hx hb dX6_tick_32 (by decide) (by decide) (fun z41 ez41 => ?_)
            refine hq_iaddU hx hb dX6_tick_33 (fun x42 => ?_)
            refine lv_ldc hx hb hown (hts (.constant RX6 118 (2147483647)) (List.mem_of_getElem? (i := 2) rfl)) dX6_tick_34 ?_
            refine lv_topi (fun z43 fz43 => ?_)
            have ez43 : z43.toInt = 2147483647 := by rw [fz43]; rfl
            refine hq_iandU hx hb dX6_tick_36 (fun x44 => ?_)
            refine hp_putx (C := RX6) (T := TX6) (N := 12) (ci := 6) (kd := 1) hx hb hts iX6_tick_X6 hown hK hJ k0 rfl rfl 10 (by decide) (hts (.fieldLink RX6 115 "NeighborBook" "ticks" "I") (List.mem_of_getElem? (i := 1) rfl)) (fun _ h9 => h9) tyX6 tyX6_ok nmX6 (x := x44) rfl rfl (by decide) hW rfl rfl rfl dX6_tick_37 (fun g45 H locs eg45 ng45 hJ => ?_)
            have eg45 : g45 1 10 = x44.toInt := eg45
            have P46 : hg_P hx_c g g45 := hg_P.put iv15 ng45 rfl
            have tt47 : g45 1 1 = g12 1 1 := ng45 1 1 (by decide)
            have tt48 : g45 10 1 = g12 10 1 := ng45 10 1 (by decide)
            have tt49 : g45 4 1 = g12 4 1 := ng45 4 1 (by decide)
            refine lv_aload_n hx hb dX6_tick_40 rfl (lv_at hl 0 rfl) ?_
            refine hp_getr (C := RX6) (T := TX6) (N := 12) (ci := 6) (kd := 1) hx hb hts iX6_tick_X6 hown hK hJ k0 rfl rfl 4 (by decide) (hts (.fieldLink RX6 29 "NeighborBook" "known" "LNeighborBook$Neighbors;") (List.mem_of_getElem? (i := 3) rfl)) (fun _ h9 => h9) rfl dX6_tick_41 (fun b50 kb50 => ?_)
            refine hp_callv (va_runV (As := []) (rest := []) ⟨hx, hb, hml, hown, hts⟩ (c_X3_passTick l dC dI dA κ B g45 b50 kb50 (hg_k.ofc hG P46 (by constructor <;> omega) (by constructor <;> omega) )) (cwV 0 hts gX6_tick_X3_passTick rfl rfl rfl (by decide +kernel) ⟨Nat.le_of_ble_eq_true rfl, Nat.le_of_ble_eq_true rfl⟩) (hp_preV (q := (RX3, TX3, 2)) [] hK hN hW hJ kb50 rfl rfl) rfl rfl hl.1 rfl (lv_room (Nat.le_of_ble_eq_true rfl)) dX6_tick_44 ⟨Nat.zero_le _, Nat.zero_le _⟩) hJ (fun g51 H locs hp hJ => ?_)
            obtain ⟨P53a, K54⟩ := hp
            obtain ⟨K541, K542, K543, K544, K545, K546, K547, K548⟩ := id K54
            have P53 : hg_P hx_c g g51 := hg_P.tr P46 P53a
            have qt55 : g51 1 1 = g45 1 1 := P53a 1 1 rfl
            have qt56 : g51 11 1 = g45 11 1 := P53a 11 1 rfl
            have qt57 : g51 11 13 = g45 11 13 := P53a 11 13 rfl
            have qt58 : g51 11 22 = g45 11 22 := P53a 11 22 rfl
            refine hq_iconst hx hb dX6_tick_47 (by decide) (by decide) (fun z59 ez59 => ?_)
            refine lv_istore (lv' := [(5, .int z59), (0, .ref h0), (1, .int n), (2, .int v9), (3, .int v10), (4, .int v11)]) hx hb dX6_tick_48 hl (by decide) rfl (fun ls hl => ?_)
            have lp64 : ∀ (nlp64 : Nat) (v60 : Int32) (v61 : Int32) (v62 : Int32) (g63 : Nat → Nat → Int) (H : Heap) (locs : List Loc) (ls : Array Slot), (hg_P hx_c g g63) → (hg_k g63) → (0 ≤ v62.toInt) → (v62.toInt ≤ 4) → (dn = 0 → v60.toInt = 0) → (5 - v62.toInt < (nlp64 : Int)) → hp_J dC dI dA κ B g63 s.heap H locs → lv_has ls 6 [(0, .ref h0), (1, .int n), (2, .int v60), (3, .int v61), (4, .int v11), (5, .int v62)] → W p l e (headSpec wsX6_tick ({ frames := 4, cells := 0, slots := 0, locals := 91 } : Room)).room s m ([Value.ref h0, Value.int n] : List Value).toArray below meth c H locs 0 0 (MQ below (hp_Qi dC dI dA κ B (fun r u => hg_P hx_c g u ∧ hg_k u ∧ (((1 ≤ n.toInt ∧ n.toInt ≤ 5000) ∧ ((∀ j : Nat, j < 4 → g (5 + j) 0 = 0) → r.toInt = 0)) ∨ (¬ (1 ≤ n.toInt ∧ n.toInt ≤ 5000) ∧ r.toInt = -1)))) ([Value.ref h0, Value.int n] : List Value).toArray s 0 0 (hp_A B)) (F0 m 50 ls []) := by
              intro nlp64
              induction nlp64 with
              | zero => intro v60 v61 v62 g63 H locs ls iv66 iv67 iv68 iv69 iv70 hm65 hJ hl; exact absurd hm65 (by omega)
              | succ nlp64 ihlp64 =>
                intro v60 v61 v62 g63 H locs ls iv66 iv67 iv68 iv69 iv70 hm65 hJ hl
                obtain ⟨hG1, hG2, hG3, hG4, hG5, hG6, hG7, hG8⟩ := id iv67
                refine lv_iload hx hb dX6_tick_50 (lv_at hl 5 rfl) ?_
                refine hq_iconst hx hb dX6_tick_52 (by decide) (by decide) (fun z71 ez71 => ?_)
                refine hq_icmp_ge (tgt := 85) hx hb dX6_tick_53 (by decide) (fun c72 => ?_) (fun c72 => ?_)
                · refine hq_iinc (k := 4) (lv' := fun (z9 : Int32) => [(4, .int z9), (0, .ref h0), (1, .int n), (2, .int v60), (3, .int v61), (5, .int v62)]) hx hb dX6_tick_85 hl rfl (by decide) (by decide) (by omega) (by omega) (by decide) (fun _ => rfl) (fun x73 ls ex73 hl => ?_)
                  have hl : lv_has ls 6 [(4, .int x73), (0, .ref h0), (1, .int n), (2, .int v60), (3, .int v61), (5, .int v62)] := hl
                  refine lv_goto (tgt := 21) hx hb dX6_tick_88 (by decide) ?_
                  exact ihlp13 v60 v61 x73 g63 _ _ ls iv66 iv67 (by omega) (by omega) (by omega) (by omega) hJ (lv_sub hl [1, 2, 3, 4, 0] rfl)
                · refine lv_aload_n hx hb dX6_tick_56 rfl (lv_at hl 0 rfl) ?_
                  refine hp_getr (C := RX6) (T := TX6) (N := 12) (ci := 6) (kd := 1) hx hb hts iX6_tick_X6 hown hK hJ k0 rfl rfl 3 (by decide) (hts (.fieldLink RX6 22 "NeighborBook" "ports" "[LNeighborBook$Port;") (List.mem_of_getElem? (i := 4) rfl)) (fun _ h9 => h9) rfl dX6_tick_57 (fun b74 kb74 => ?_)
                  refine lv_iload hx hb dX6_tick_60 (lv_at hl 5 rfl) ?_
                  refine hp_aald3 (kd := 15) (n := 4) hx hb hK hJ kb74 rfl (by omega) (by omega) (hk_s15 (by omega)) dX6_tick_62 (fun b75 kb75 => ?_)
                  have hd1 : dn = 0 → g63 (5 + v62.toInt.toNat) 0 = 0 := fun h9 => (iv66 (5 + v62.toInt.toNat) 0 (hx_c50 (by omega))).trans (hdn.2 h9 _ (by omega))
                  refine lv_aload_n hx hb dX6_tick_63 rfl (lv_at hl 0 rfl) ?_
                  refine hp_geti (C := RX6) (T := TX6) (N := 12) (ci := 6) (kd := 1) hx hb hts iX6_tick_X6 hown hK hJ k0 rfl rfl 7 (by decide) (hts (.fieldLink RX6 47 "NeighborBook" "interval" "I") (List.mem_of_getElem? (i := 5) rfl)) (fun _ h9 => h9) rfl rfl dX6_tick_64 (fun x76 ex76 => ?_)
                  refine hp_calli (va_runV (As := [.int x76]) (rest := []) ⟨hx, hb, hml, hown, hts⟩ (c_X4_passTick l dC dI dA κ B g63 (v62.toInt.toNat) (by omega : v62.toInt.toNat < 4) b75 kb75 x76 iv67) (cwV 1 hts gX6_tick_X4_passTick rfl rfl rfl (by decide +kernel) ⟨Nat.le_of_ble_eq_true rfl, Nat.le_of_ble_eq_true rfl⟩) (hp_preV (q := (RX4, TX4, 6)) [.int x76] hK hN hW hJ kb75 (hk_t5 (by omega : v62.toInt.toNat < 4)) rfl) rfl rfl hl.1 rfl (lv_room (Nat.le_of_ble_eq_true rfl)) dX6_tick_67 ⟨Nat.zero_le _, Nat.zero_le _⟩) hJ (fun x78 g77 H locs hp hJ => ?_)
                  obtain ⟨P80a, K81, f79⟩ := hp
                  obtain ⟨K811, K812, K813, K814, K815, K816, K817, K818⟩ := id K81
                  have P80 : hg_P hx_c g g77 := hg_P.tr iv66 P80a
                  have qt82 : g77 1 1 = g63 1 1 := P80a 1 1 rfl
                  have qt83 : g77 11 1 = g63 11 1 := P80a 11 1 rfl
                  have qt84 : g77 11 13 = g63 11 13 := P80a 11 13 rfl
                  have qt85 : g77 11 22 = g63 11 22 := P80a 11 22 rfl
                  have hd2 : dn = 0 → x78.toInt = 0 := fun h9 => (f79.2 (hd1 h9)).1
                  refine hq_if_eq (tgt := 79) hx hb dX6_tick_70 (by decide) (fun c86 => ?_) (fun c86 => ?_)
                  · refine hq_iinc (k := 5) (lv' := fun (z9 : Int32) => [(5, .int z9), (0, .ref h0), (1, .int n), (2, .int v60), (3, .int v61), (4, .int v11)]) hx hb dX6_tick_79 hl rfl (by decide) (by decide) (by omega) (by omega) (by decide) (fun _ => rfl) (fun x87 ls ex87 hl => ?_)
                    have hl : lv_has ls 6 [(5, .int x87), (0, .ref h0), (1, .int n), (2, .int v60), (3, .int v61), (4, .int v11)] := hl
                    refine lv_goto (tgt := 50) hx hb dX6_tick_82 (by decide) ?_
                    exact ihlp64 v60 v61 x87 g77 _ _ ls P80 K81 (by omega) (by omega) (by omega) (by omega) hJ (lv_sub hl [1, 2, 3, 4, 5, 0] rfl)
                  · refine hq_iincU (k := 2) (lv' := fun (z9 : Int32) => [(2, .int z9), (0, .ref h0), (1, .int n), (3, .int v61), (4, .int v11), (5, .int v62)]) hx hb dX6_tick_73 hl rfl (by decide) (fun _ => rfl) (fun x88 ls hl => ?_)
                    have hl : lv_has ls 6 [(2, .int x88), (0, .ref h0), (1, .int n), (3, .int v61), (4, .int v11), (5, .int v62)] := hl
                    refine lv_iload hx hb dX6_tick_76 (lv_at hl 5 rfl) ?_
                    refine lv_istore_n (lv' := [(3, .int v62), (2, .int x88), (0, .ref h0), (1, .int n), (4, .int v11), (5, .int v62)]) hx hb dX6_tick_78 rfl hl (by decide) rfl (fun ls hl => ?_)
                    refine hq_iinc (k := 5) (lv' := fun (z9 : Int32) => [(5, .int z9), (3, .int v62), (2, .int x88), (0, .ref h0), (1, .int n), (4, .int v11)]) hx hb dX6_tick_79 hl rfl (by decide) (by decide) (by omega) (by omega) (by decide) (fun _ => rfl) (fun x89 ls ex89 hl => ?_)
                    have hl : lv_has ls 6 [(5, .int x89), (3, .int v62), (2, .int x88), (0, .ref h0), (1, .int n), (4, .int v11)] := hl
                    refine lv_goto (tgt := 50) hx hb dX6_tick_82 (by decide) ?_
                    exact ihlp64 x88 v62 x89 g77 _ _ ls P80 K81 (by omega) (by omega) (by omega) (by omega) hJ (lv_sub hl [3, 4, 2, 1, 5, 0] rfl)
            exact lp64 ((5 - z59.toInt).toNat + 1) v9 v10 z59 g51 _ _ ls P53 K54 (by omega) (by omega) (by omega) (by omega) hJ (lv_sub hl [1, 2, 3, 4, 5, 0] rfl)
      exact lp13 ((5001 - z8.toInt).toNat + 1) z6 z7 z8 g _ _ ls hg_P.rf hG (by omega) (by omega) (by omega) (by omega) hJ (lv_sub hl [3, 4, 2, 1, 0] rfl)
    · refine hq_iconst hx hb dX6_tick_12 (by decide) (by decide) (fun z90 ez90 => ?_)
      exact hp_iret hx hb hK hN hW hlocks hJ hr ⟨hg_P.rf, hG, by first | exact Or.inl ⟨by omega, fun h9 => by have := hdn.1 h9; omega⟩ | exact Or.inr ⟨by omega, by omega⟩⟩ dX6_tick_13
