theorem iX7_port_X7 : ∀ w ∈ wsX70, w ∈ wsX7_port := fun _ h => List.mem_cons_of_mem _ (List.mem_append_right _ h)
set_option maxRecDepth 100000 in
set_option maxHeartbeats 4000000 in
theorem e_X7_port (l : Launch) (dC : Nat → ClassId) (dI : Nat → Nat → Nat) (dA : Nat → ClassId) (κ : Nat → Nat) (B : Nat) (g : Nat → Nat → Int) (h0 : Nat) (k0 : κ h0 = 11) (p1 : Int32) (up : Int32) : Met l yX7_port wsX7_port ({ frames := 3, cells := 0, slots := 0, locals := 67 } : Room) (he_Pre dC dI dA κ B g [Value.ref h0, Value.int p1, Value.int up]) (he_Qi dC dI dA κ B (fun r u => hg_Q (fun a b => a = 11 ∧ (b = 13 ∨ b = 22 ∨ b = 23) ∨ (20 ≤ a ∧ a ≤ 30)) g u ∧ (((0 ≤ p1.toInt ∧ p1.toInt < 4 ∧ 0 ≤ up.toInt ∧ up.toInt ≤ 1 ∧ g 20 p1.toInt.toNat ≠ up.toInt) ∧ up.toInt = 1 ∧ hm_tab u = hm_tab g ∧ (∀ j : Nat, j < 4 → u 20 j = if j = p1.toInt.toNat then up.toInt else g 20 j)) ∨ ((0 ≤ p1.toInt ∧ p1.toInt < 4 ∧ 0 ≤ up.toInt ∧ up.toInt ≤ 1 ∧ g 20 p1.toInt.toNat ≠ up.toInt) ∧ up.toInt = 0 ∧ hm_tab u = hr_np p1.toInt (hm_tab g) ∧ (∀ j : Nat, j < 4 → u 20 j = if j = p1.toInt.toNat then up.toInt else g 20 j)) ∨ (¬ (0 ≤ p1.toInt ∧ p1.toInt < 4 ∧ 0 ≤ up.toInt ∧ up.toInt ≤ 1 ∧ g 20 p1.toInt.toNat ≠ up.toInt) ∧ g = u)) ∧ u 27 12 = g 27 12)) 0 0 (hp_A B) := by
  refine Met.ofW (cc := cX7_port) (maxL := 4) (ret := (some .int)) (by decide) rfl ?_
  intro p e s m args below meth c s₁ Bd hml hv
  obtain ⟨rfl, hK, hN, hW, hF⟩ := hv
  have hx := Bd.exec
  have hb := Bd.bytes
  have hr := Bd.returns
  have hts := atoms_spec (ws := wsX7_port) Bd.pre
  have hown : s.vm.findClass RX7 = some m.cls := findClass_of_methodNamed Bd.named
  have hlocks := Bd.notSynchronized
  have hJ : he_J dC dI dA κ B g s.heap s.heap [] := ⟨hF, va_S.rf⟩
  have hl := lv_entry ([Value.ref h0, Value.int p1, Value.int up]) (n := 4) (Nat.le_of_ble_eq_true rfl)
  rw [lg_entry_eq]
  generalize (lg_sl ([Value.ref h0, Value.int p1, Value.int up]) ++ List.replicate (4 - (lg_sl ([Value.ref h0, Value.int p1, Value.int up])).length) Slot.unset).toArray = ls at hl ⊢
  have hl : lv_has ls 4 [(0, .ref h0), (1, .int p1), (2, .int up)] := hl
  have hsz := he_msz hJ k0
  have hkn := he_m13 hJ k0
  refine lv_iload_n hx hb dX7_port_0 rfl (lv_at hl 1 rfl) ?_
  refine hq_if_lt (tgt := 37) hx hb dX7_port_1 (by decide) (fun c1 => ?_) (fun c1 => ?_)
  · refine hq_iconst hx hb dX7_port_37 (by decide) (by decide) (fun z2 ez2 => ?_)
    exact he_iret hx hb hK hN hW hlocks hJ hr ⟨hg_Q.rf, Or.inr (Or.inr ⟨by omega, rfl⟩), rfl⟩ dX7_port_38
  · refine lv_iload_n hx hb dX7_port_4 rfl (lv_at hl 1 rfl) ?_
    refine hq_iconst hx hb dX7_port_5 (by decide) (by decide) (fun z3 ez3 => ?_)
    refine hq_icmp_ge (tgt := 37) hx hb dX7_port_6 (by decide) (fun c4 => ?_) (fun c4 => ?_)
    · refine hq_iconst hx hb dX7_port_37 (by decide) (by decide) (fun z5 ez5 => ?_)
      exact he_iret hx hb hK hN hW hlocks hJ hr ⟨hg_Q.rf, Or.inr (Or.inr ⟨by omega, rfl⟩), rfl⟩ dX7_port_38
    · refine lv_iload_n hx hb dX7_port_9 rfl (lv_at hl 2 rfl) ?_
      refine hq_if_lt (tgt := 37) hx hb dX7_port_10 (by decide) (fun c6 => ?_) (fun c6 => ?_)
      · refine hq_iconst hx hb dX7_port_37 (by decide) (by decide) (fun z7 ez7 => ?_)
        exact he_iret hx hb hK hN hW hlocks hJ hr ⟨hg_Q.rf, Or.inr (Or.inr ⟨by omega, rfl⟩), rfl⟩ dX7_port_38
      · refine lv_iload_n hx hb dX7_port_13 rfl (lv_at hl 2 rfl) ?_
        refine hq_iconst hx hb dX7_port_14 (by decide) (by decide) (fun z8 ez8 => ?_)
        refine hq_icmp_gt (tgt := 37) hx hb dX7_port_15 (by decide) (fun c9 => ?_) (fun c9 => ?_)
        · refine hq_iconst hx hb dX7_port_37 (by decide) (by decide) (fun z10 ez10 => ?_)
          exact he_iret hx hb hK hN hW hlocks hJ hr ⟨hg_Q.rf, Or.inr (Or.inr ⟨by omega, rfl⟩), rfl⟩ dX7_port_38
        · refine lv_aload_n hx hb dX7_port_18 rfl (lv_at hl 0 rfl) ?_
          refine he_getr (C := RX7) (T := TX7) (N := 24) (ci := 7) (kd := 11) hx hb hts iX7_port_X7 hown hK hJ k0 rfl rfl 7 (by decide) (hts (.fieldLink RX7 30 "NeighborBookModel" "up" "[Z") (List.mem_of_getElem? (i := 1) rfl)) (fun _ h9 => h9) rfl dX7_port_19 (fun b11 kb11 => ?_)
          refine lv_iload_n hx hb dX7_port_22 rfl (lv_at hl 1 rfl) ?_
          refine he_zald (kd := 20) (n := 4) hx hb hK hJ kb11 rfl (by omega) (by omega) (sp := (9, 1)) rfl rfl dX7_port_23 (fun x12 ex12 => ?_)
          have ex12 : x12.toInt = g 20 p1.toInt.toNat ∧ 0 ≤ x12.toInt ∧ x12.toInt ≤ 1 := ex12
          refine lv_iload_n hx hb dX7_port_24 rfl (lv_at hl 2 rfl) ?_
          refine hq_iconst hx hb dX7_port_25 (by decide) (by decide) (fun z13 ez13 => ?_)
          refine hq_icmp_ne (tgt := 33) hx hb dX7_port_26 (by decide) (fun c14 => ?_) (fun c14 => ?_)
          · refine hq_iconst hx hb dX7_port_33 (by decide) (by decide) (fun z15 ez15 => ?_)
            refine hq_icmp_ne (tgt := 39) hx hb dX7_port_34 (by decide) (fun c16 => ?_) (fun c16 => ?_)
            · refine lv_aload_n hx hb dX7_port_39 rfl (lv_at hl 0 rfl) ?_
              refine he_getr (C := RX7) (T := TX7) (N := 24) (ci := 7) (kd := 11) hx hb hts iX7_port_X7 hown hK hJ k0 rfl rfl 7 (by decide) (hts (.fieldLink RX7 30 "NeighborBookModel" "up" "[Z") (List.mem_of_getElem? (i := 1) rfl)) (fun _ h9 => h9) rfl dX7_port_40 (fun b17 kb17 => ?_)
              refine lv_iload_n hx hb dX7_port_43 rfl (lv_at hl 1 rfl) ?_
              refine lv_iload_n hx hb dX7_port_44 rfl (lv_at hl 2 rfl) ?_
              refine hq_iconst hx hb dX7_port_45 (by decide) (by decide) (fun z18 ez18 => ?_)
              refine hq_icmp_ne (tgt := 53) hx hb dX7_port_46 (by decide) (fun c19 => ?_) (fun c19 => ?_)
              · refine hq_iconst hx hb dX7_port_53 (by decide) (by decide) (fun z20 ez20 => ?_)
                refine he_zastx (kd := 20) (n := 4) hx hb hK hJ kb17 rfl (by omega) (by omega) (by decide) hW rfl (hi_bool (by omega)) (sp := (9, 1)) rfl rfl (show z20.toInt = z20.toInt ∧ 0 ≤ z20.toInt ∧ z20.toInt ≤ 1 from ⟨rfl, by omega, by omega⟩) dX7_port_54 (fun g21 H locs eg21 ng21 hJ => ?_)
                have eg21 : g21 20 p1.toInt.toNat = z20.toInt := eg21
                have P22 : hg_Q (fun a b => a = 11 ∧ (b = 13 ∨ b = 22 ∨ b = 23) ∨ (20 ≤ a ∧ a ≤ 30)) g g21 := hg_Q.put hg_Q.rf ng21 (show 20 = 11 ∧ (p1.toInt.toNat = 13 ∨ p1.toInt.toNat = 22 ∨ p1.toInt.toNat = 23) ∨ (20 ≤ 20 ∧ 20 ≤ 30) from by omega)
                have qt23 : g21 11 13 = g 11 13 := ng21 11 13 (by omega)
                have qt24 : g21 27 12 = g 27 12 := ng21 27 12 (by omega)
                refine lv_aload_n hx hb dX7_port_55 rfl (lv_at hl 0 rfl) ?_
                refine he_getr (C := RX7) (T := TX7) (N := 24) (ci := 7) (kd := 11) hx hb hts iX7_port_X7 hown hK hJ k0 rfl rfl 11 (by decide) (hts (.fieldLink RX7 43 "NeighborBookModel" "waits" "[I") (List.mem_of_getElem? (i := 2) rfl)) (fun _ h9 => h9) rfl dX7_port_56 (fun b25 kb25 => ?_)
                refine lv_iload_n hx hb dX7_port_59 rfl (lv_at hl 1 rfl) ?_
                refine lv_iload_n hx hb dX7_port_60 rfl (lv_at hl 2 rfl) ?_
                refine he_iastx (kd := 24) (n := 4) hx hb hK hJ kb25 rfl (by omega) (by omega) (by decide) hW rfl (sp := (0, 0)) rfl rfl rfl dX7_port_61 (fun g26 H locs eg26 ng26 hJ => ?_)
                have eg26 : g26 24 p1.toInt.toNat = up.toInt := eg26
                have P27 : hg_Q (fun a b => a = 11 ∧ (b = 13 ∨ b = 22 ∨ b = 23) ∨ (20 ≤ a ∧ a ≤ 30)) g g26 := hg_Q.put P22 ng26 (show 24 = 11 ∧ (p1.toInt.toNat = 13 ∨ p1.toInt.toNat = 22 ∨ p1.toInt.toNat = 23) ∨ (20 ≤ 24 ∧ 24 ≤ 30) from by omega)
                have qt28 : g26 11 13 = g21 11 13 := ng26 11 13 (by omega)
                have qt29 : g26 27 12 = g21 27 12 := ng26 27 12 (by omega)
                refine lv_aload_n hx hb dX7_port_62 rfl (lv_at hl 0 rfl) ?_
                refine he_getr (C := RX7) (T := TX7) (N := 24) (ci := 7) (kd := 11) hx hb hts iX7_port_X7 hown hK hJ k0 rfl rfl 12 (by decide) (hts (.fieldLink RX7 46 "NeighborBookModel" "quicks" "[I") (List.mem_of_getElem? (i := 3) rfl)) (fun _ h9 => h9) rfl dX7_port_63 (fun b30 kb30 => ?_)
                refine lv_iload_n hx hb dX7_port_66 rfl (lv_at hl 1 rfl) ?_
                refine lv_iload_n hx hb dX7_port_67 rfl (lv_at hl 2 rfl) ?_
                refine hq_iconst hx hb dX7_port_68 (by decide) (by decide) (fun z31 ez31 => ?_)
                refine hq_icmp_ne (tgt := 79) hx hb dX7_port_69 (by decide) (fun c32 => ?_) (fun c32 => ?_)
                · refine hq_iconst hx hb dX7_port_79 (by decide) (by decide) (fun z33 ez33 => ?_)
                  refine he_iastx (kd := 25) (n := 4) hx hb hK hJ kb30 rfl (by omega) (by omega) (by decide) hW rfl (sp := (0, 0)) rfl rfl rfl dX7_port_80 (fun g34 H locs eg34 ng34 hJ => ?_)
                  have eg34 : g34 25 p1.toInt.toNat = z33.toInt := eg34
                  have P35 : hg_Q (fun a b => a = 11 ∧ (b = 13 ∨ b = 22 ∨ b = 23) ∨ (20 ≤ a ∧ a ≤ 30)) g g34 := hg_Q.put P27 ng34 (show 25 = 11 ∧ (p1.toInt.toNat = 13 ∨ p1.toInt.toNat = 22 ∨ p1.toInt.toNat = 23) ∨ (20 ≤ 25 ∧ 25 ≤ 30) from by omega)
                  have qt36 : g34 11 13 = g26 11 13 := ng34 11 13 (by omega)
                  have qt37 : g34 27 12 = g26 27 12 := ng34 27 12 (by omega)
                  have hT0 : hm_tab g34 = hm_tab g := hm_tab_same hsz (by omega) (by omega) (fun a b h9 => by rw [ng34 a b (by omega), ng26 a b (by omega), ng21 a b (by omega)])
                  have hU0 : (∀ j : Nat, j < 4 → g34 20 j = if j = p1.toInt.toNat then up.toInt else g 20 j) := fun j hj => by
                    rw [ng34 20 j (by omega), ng26 20 j (by omega)]
                    by_cases h9 : j = p1.toInt.toNat
                    · rw [if_pos h9, h9, eg21]; omega
                    · rw [if_neg h9, ng21 20 j (by omega)]
                  refine lv_iload_n hx hb dX7_port_81 rfl (lv_at hl 2 rfl) ?_
                  refine hq_if_ne (tgt := 123) hx hb dX7_port_82 (by decide) (fun c38 => ?_) (fun c38 => ?_)
                  · exfalso; omega
                  · refine lv_aload_n hx hb dX7_port_85 rfl (lv_at hl 0 rfl) ?_
                    refine lv_iload_n hx hb dX7_port_86 rfl (lv_at hl 1 rfl) ?_
                    refine hq_iconst hx hb dX7_port_87 (by decide) (by decide) (fun z39 ez39 => ?_)
                    have hsz0 := he_msz hJ k0
                    refine he_callv (va_runV (As := [.int p1, .int z39]) (rest := []) ⟨hx, hb, hml, hown, hts⟩ (e_X7_send l dC dI dA κ B g34 h0 k0 p1 z39 (by omega) (by omega)) (cwV 2 hts gX7_port_X7_send rfl rfl rfl (by decide +kernel) ⟨Nat.le_of_ble_eq_true rfl, Nat.le_of_ble_eq_true rfl⟩) (he_preV (q := (RX7, TX7, 24)) [.int p1, .int z39] hK hN hW hJ k0 rfl rfl) rfl rfl hl.1 rfl (lv_room (Nat.le_of_ble_eq_true rfl)) dX7_port_88 ⟨Nat.zero_le _, Nat.zero_le _⟩) hJ (fun g40 H locs hp hJ => ?_)
                    have P42a := hp
                    have P42 : hg_Q (fun a b => a = 11 ∧ (b = 13 ∨ b = 22 ∨ b = 23) ∨ (20 ≤ a ∧ a ≤ 30)) g g40 := hg_Q.tr P35 (hg_Q.le P42a (fun a b h9 => by have h9 : (a = 11 ∧ (b = 22 ∨ b = 23)) ∨ a = 21 := h9; show a = 11 ∧ (b = 13 ∨ b = 22 ∨ b = 23) ∨ (20 ≤ a ∧ a ≤ 30); omega))
                    have qt43 : g40 11 13 = g34 11 13 := P42a 11 13 (show ¬ ((11 = 11 ∧ (13 = 22 ∨ 13 = 23)) ∨ 11 = 21) from by omega)
                    have qt44 : g40 27 12 = g34 27 12 := P42a 27 12 (show ¬ ((27 = 11 ∧ (12 = 22 ∨ 12 = 23)) ∨ 27 = 21) from by omega)
                    refine lv_aload_n hx hb dX7_port_91 rfl (lv_at hl 0 rfl) ?_
                    refine he_geti (C := RX7) (T := TX7) (N := 24) (ci := 7) (kd := 11) hx hb hts iX7_port_X7 hown hK hJ k0 rfl rfl 13 (by decide) (hts (.fieldLink RX7 91 "NeighborBookModel" "known" "I") (List.mem_of_getElem? (i := 5) rfl)) (fun _ h9 => h9) rfl rfl dX7_port_92 (fun x45 ex45 => ?_)
                    have ex45 : x45.toInt = g40 11 13 ∧ 0 ≤ x45.toInt ∧ x45.toInt ≤ 12 := ex45
                    refine hq_iconst hx hb dX7_port_95 (by decide) (by decide) (fun z46 ez46 => ?_)
                    refine hq_isub hx hb dX7_port_96 (by omega) (by omega) (fun x47 ex47 => ?_)
                    refine lv_istore_n (lv' := [(3, .int x47), (0, .ref h0), (1, .int p1), (2, .int up)]) hx hb dX7_port_97 rfl hl (by decide) rfl (fun ls hl => ?_)
                    have hT1 : hm_tab g40 = hm_tab g := (hm_tab_same hsz0 (by omega) (by omega) (fun a b h9 => P42a a b (show ¬ ((a = 11 ∧ (b = 22 ∨ b = 23)) ∨ a = 21) from by omega))).trans hT0
                    have hU1 : (∀ j : Nat, j < 4 → g40 20 j = if j = p1.toInt.toNat then up.toInt else g 20 j) := fun j hj => by rw [P42a 20 j (show ¬ ((20 = 11 ∧ (j = 22 ∨ j = 23)) ∨ 20 = 21) from by omega)]; exact hU0 j hj
                    have lp50 : ∀ (nlp50 : Nat) (v48 : Int32) (g49 : Nat → Nat → Int) (H : Heap) (locs : List Loc) (ls : Array Slot), (hg_Q (fun a b => a = 11 ∧ (b = 13 ∨ b = 22 ∨ b = 23) ∨ (20 ≤ a ∧ a ≤ 30)) g g49) → (-1 ≤ v48.toInt) → (v48.toInt < g49 11 13) → (g49 11 13 ≤ 12 ∧ v48.toInt < g 11 13) → (g49 27 12 = g 27 12) → (hm_tab g49 = (hm_tab g).take (v48.toInt + 1).toNat ++ hr_np p1.toInt ((hm_tab g).drop (v48.toInt + 1).toNat)) → ((∀ j : Nat, j < 4 → g49 20 j = if j = p1.toInt.toNat then up.toInt else g 20 j)) → (v48.toInt + 2 < (nlp50 : Int)) → he_J dC dI dA κ B g49 s.heap H locs → lv_has ls 4 [(0, .ref h0), (1, .int p1), (2, .int up), (3, .int v48)] → W p l e (headSpec wsX7_port ({ frames := 3, cells := 0, slots := 0, locals := 67 } : Room)).room s m ([Value.ref h0, Value.int p1, Value.int up] : List Value).toArray below meth c H locs 0 0 (MQ below (he_Qi dC dI dA κ B (fun r u => hg_Q (fun a b => a = 11 ∧ (b = 13 ∨ b = 22 ∨ b = 23) ∨ (20 ≤ a ∧ a ≤ 30)) g u ∧ (((0 ≤ p1.toInt ∧ p1.toInt < 4 ∧ 0 ≤ up.toInt ∧ up.toInt ≤ 1 ∧ g 20 p1.toInt.toNat ≠ up.toInt) ∧ up.toInt = 1 ∧ hm_tab u = hm_tab g ∧ (∀ j : Nat, j < 4 → u 20 j = if j = p1.toInt.toNat then up.toInt else g 20 j)) ∨ ((0 ≤ p1.toInt ∧ p1.toInt < 4 ∧ 0 ≤ up.toInt ∧ up.toInt ≤ 1 ∧ g 20 p1.toInt.toNat ≠ up.toInt) ∧ up.toInt = 0 ∧ hm_tab u = hr_np p1.toInt (hm_tab g) ∧ (∀ j : Nat, j < 4 → u 20 j = if j = p1.toInt.toNat then up.toInt else g 20 j)) ∨ (¬ (0 ≤ p1.toInt ∧ p1.toInt < 4 ∧ 0 ≤ up.toInt ∧ up.toInt ≤ 1 ∧ g 20 p1.toInt.toNat ≠ up.toInt) ∧ g = u)) ∧ u 27 12 = g 27 12)) ([Value.ref h0, Value.int p1, Value.int up] : List Value).toArray s 0 0 (hp_A B)) (F0 m 98 ls []) := by
                      intro nlp50
                      induction nlp50 with
                      | zero => intro v48 g49 H locs ls iv52 iv53 iv54 iv55 iv56 iv57 iv58 hm51 hJ hl; exact absurd hm51 (by omega)
                      | succ nlp50 ihlp50 =>
                        intro v48 g49 H locs ls iv52 iv53 iv54 iv55 iv56 iv57 iv58 hm51 hJ hl
                        refine lv_iload_n hx hb dX7_port_98 rfl (lv_at hl 3 rfl) ?_
                        refine hq_if_lt (tgt := 123) hx hb dX7_port_99 (by decide) (fun c59 => ?_) (fun c59 => ?_)
                        · refine hq_iconst hx hb dX7_port_123 (by decide) (by decide) (fun z60 ez60 => ?_)
                          exact he_iret hx hb hK hN hW hlocks hJ hr ⟨iv52, Or.inr (Or.inl ⟨by omega, by omega, by rw [iv57, show (v48.toInt + 1).toNat = 0 by omega]; rfl, iv58⟩), by omega⟩ dX7_port_124
                        · refine lv_aload_n hx hb dX7_port_102 rfl (lv_at hl 0 rfl) ?_
                          refine he_getr (C := RX7) (T := TX7) (N := 24) (ci := 7) (kd := 11) hx hb hts iX7_port_X7 hown hK hJ k0 rfl rfl 14 (by decide) (hts (.fieldLink RX7 49 "NeighborBookModel" "ports" "[I") (List.mem_of_getElem? (i := 6) rfl)) (fun _ h9 => h9) rfl dX7_port_103 (fun b61 kb61 => ?_)
                          refine lv_iload_n hx hb dX7_port_106 rfl (lv_at hl 3 rfl) ?_
                          refine he_iald (kd := 26) (n := 13) hx hb hK hJ kb61 rfl (by omega) (by omega) (sp := (9, 3)) rfl rfl dX7_port_107 (fun x62 ex62 => ?_)
                          have ex62 : x62.toInt = g49 26 v48.toInt.toNat ∧ 0 ≤ x62.toInt ∧ x62.toInt ≤ 3 := ex62
                          have hvl : v48.toInt.toNat < (hm_tab g).length := by rw [hm_tab_len]; omega
                          have hTv := iv57
                          rw [show (v48.toInt + 1).toNat = v48.toInt.toNat + 1 by omega] at hTv
                          have hlk := hm_look hTv (by omega) hvl
                          refine lv_iload_n hx hb dX7_port_108 rfl (lv_at hl 1 rfl) ?_
                          refine hq_icmp_ne (tgt := 117) hx hb dX7_port_109 (by decide) (fun c63 => ?_) (fun c63 => ?_)
                          · have hUn := iv58
                            have hT : hm_tab g49 = (hm_tab g).take v48.toInt.toNat ++ hr_np p1.toInt ((hm_tab g).drop v48.toInt.toNat) := by
                              rw [hTv]
                              exact hr_np_k hvl (by rw [hlk]; show g49 26 v48.toInt.toNat ≠ p1.toInt; omega)
                            refine hq_iinc (k := 3) (lv' := fun (z9 : Int32) => [(3, .int z9), (0, .ref h0), (1, .int p1), (2, .int up)]) hx hb dX7_port_117 hl rfl (by decide) (by decide) (by omega) (by omega) (by decide) (fun _ => rfl) (fun x64 ls ex64 hl => ?_)
                            have hl : lv_has ls 4 [(3, .int x64), (0, .ref h0), (1, .int p1), (2, .int up)] := hl
                            refine lv_goto (tgt := 98) hx hb dX7_port_120 (by decide) ?_
                            exact ihlp50 x64 g49 _ _ ls iv52 (by omega) (by omega) (by omega) (by omega) (by rw [show (x64.toInt + 1).toNat = v48.toInt.toNat by omega]; exact hT) hUn (by omega) hJ (lv_sub hl [1, 2, 3, 0] rfl)
                          · refine lv_aload_n hx hb dX7_port_112 rfl (lv_at hl 0 rfl) ?_
                            refine lv_iload_n hx hb dX7_port_113 rfl (lv_at hl 3 rfl) ?_
                            refine he_callv (va_runV (As := [.int v48]) (rest := []) ⟨hx, hb, hml, hown, hts⟩ (e_X7_forget l dC dI dA κ B g49 h0 k0 v48 (by omega) (by omega)) (cwV 1 hts gX7_port_X7_forget rfl rfl rfl (by decide +kernel) ⟨Nat.le_of_ble_eq_true rfl, Nat.le_of_ble_eq_true rfl⟩) (he_preV (q := (RX7, TX7, 24)) [.int v48] hK hN hW hJ k0 rfl rfl) rfl rfl hl.1 rfl (lv_room (Nat.le_of_ble_eq_true rfl)) dX7_port_114 ⟨Nat.zero_le _, Nat.zero_le _⟩) hJ (fun g65 H locs hp hJ => ?_)
                            obtain ⟨P67a, f66⟩ := hp
                            have P67 : hg_Q (fun a b => a = 11 ∧ (b = 13 ∨ b = 22 ∨ b = 23) ∨ (20 ≤ a ∧ a ≤ 30)) g g65 := hg_Q.tr iv52 (hg_Q.le P67a (fun a b h9 => by have h9 : (a = 11 ∧ b = 13) ∨ (26 ≤ a ∧ a ≤ 28 ∧ b < 12) ∨ (a = 30 ∧ b < 108) ∨ (a = 29 ∧ b < 6480) := h9; show a = 11 ∧ (b = 13 ∨ b = 22 ∨ b = 23) ∨ (20 ≤ a ∧ a ≤ 30); omega))
                            have qt68 : g65 27 12 = g49 27 12 := P67a 27 12 (show ¬ ((27 = 11 ∧ 12 = 13) ∨ (26 ≤ 27 ∧ 27 ≤ 28 ∧ 12 < 12) ∨ (27 = 30 ∧ 12 < 108) ∨ (27 = 29 ∧ 12 < 6480)) from by omega)
                            have hUn : (∀ j : Nat, j < 4 → g65 20 j = if j = p1.toInt.toNat then up.toInt else g 20 j) := fun j hj => by rw [P67a 20 j (show ¬ ((20 = 11 ∧ j = 13) ∨ (26 ≤ 20 ∧ 20 ≤ 28 ∧ j < 12) ∨ (20 = 30 ∧ j < 108) ∨ (20 = 29 ∧ j < 6480)) from by omega)]; exact iv58 j hj
                            have hT : hm_tab g65 = (hm_tab g).take v48.toInt.toNat ++ hr_np p1.toInt ((hm_tab g).drop v48.toInt.toNat) := by
                              rw [f66.2, hTv]
                              exact hr_np_e hvl (by rw [hlk]; show g49 26 v48.toInt.toNat = p1.toInt; omega)
                            refine hq_iinc (k := 3) (lv' := fun (z9 : Int32) => [(3, .int z9), (0, .ref h0), (1, .int p1), (2, .int up)]) hx hb dX7_port_117 hl rfl (by decide) (by decide) (by omega) (by omega) (by decide) (fun _ => rfl) (fun x69 ls ex69 hl => ?_)
                            have hl : lv_has ls 4 [(3, .int x69), (0, .ref h0), (1, .int p1), (2, .int up)] := hl
                            refine lv_goto (tgt := 98) hx hb dX7_port_120 (by decide) ?_
                            exact ihlp50 x69 g65 _ _ ls P67 (by omega) (by omega) (by omega) (by omega) (by rw [show (x69.toInt + 1).toNat = v48.toInt.toNat by omega]; exact hT) hUn (by omega) hJ (lv_sub hl [1, 2, 3, 0] rfl)
                    exact lp50 ((x47.toInt + 2).toNat + 1) x47 g40 _ _ ls P42 (by omega) (by omega) (by omega) (by omega) (by rw [show (x47.toInt + 1).toNat = (hm_tab g).length by rw [hm_tab_len]; omega, List.take_length, List.drop_length, hT1]; exact (List.append_nil _).symm) hU1 (by omega) hJ (lv_sub hl [1, 2, 3, 0] rfl)
                · exfalso; omega
              · exfalso; omega
            · refine hq_iconst hx hb dX7_port_37 (by decide) (by decide) (fun z70 ez70 => ?_)
              exact he_iret hx hb hK hN hW hlocks hJ hr ⟨hg_Q.rf, Or.inr (Or.inr ⟨by omega, rfl⟩), rfl⟩ dX7_port_38
          · refine hq_iconst hx hb dX7_port_29 (by decide) (by decide) (fun z71 ez71 => ?_)
            refine lv_goto (tgt := 34) hx hb dX7_port_30 (by decide) ?_
            refine hq_icmp_ne (tgt := 39) hx hb dX7_port_34 (by decide) (fun c72 => ?_) (fun c72 => ?_)
            · refine lv_aload_n hx hb dX7_port_39 rfl (lv_at hl 0 rfl) ?_
              refine he_getr (C := RX7) (T := TX7) (N := 24) (ci := 7) (kd := 11) hx hb hts iX7_port_X7 hown hK hJ k0 rfl rfl 7 (by decide) (hts (.fieldLink RX7 30 "NeighborBookModel" "up" "[Z") (List.mem_of_getElem? (i := 1) rfl)) (fun _ h9 => h9) rfl dX7_port_40 (fun b73 kb73 => ?_)
              refine lv_iload_n hx hb dX7_port_43 rfl (lv_at hl 1 rfl) ?_
              refine lv_iload_n hx hb dX7_port_44 rfl (lv_at hl 2 rfl) ?_
              refine hq_iconst hx hb dX7_port_45 (by decide) (by decide) (fun z74 ez74 => ?_)
              refine hq_icmp_ne (tgt := 53) hx hb dX7_port_46 (by decide) (fun c75 => ?_) (fun c75 => ?_)
              · exfalso; omega
              · refine hq_iconst hx hb dX7_port_49 (by decide) (by decide) (fun z76 ez76 => ?_)
                refine lv_goto (tgt := 54) hx hb dX7_port_50 (by decide) ?_
                refine he_zastx (kd := 20) (n := 4) hx hb hK hJ kb73 rfl (by omega) (by omega) (by decide) hW rfl (hi_bool (by omega)) (sp := (9, 1)) rfl rfl (show z76.toInt = z76.toInt ∧ 0 ≤ z76.toInt ∧ z76.toInt ≤ 1 from ⟨rfl, by omega, by omega⟩) dX7_port_54 (fun g77 H locs eg77 ng77 hJ => ?_)
                have eg77 : g77 20 p1.toInt.toNat = z76.toInt := eg77
                have P78 : hg_Q (fun a b => a = 11 ∧ (b = 13 ∨ b = 22 ∨ b = 23) ∨ (20 ≤ a ∧ a ≤ 30)) g g77 := hg_Q.put hg_Q.rf ng77 (show 20 = 11 ∧ (p1.toInt.toNat = 13 ∨ p1.toInt.toNat = 22 ∨ p1.toInt.toNat = 23) ∨ (20 ≤ 20 ∧ 20 ≤ 30) from by omega)
                have qt79 : g77 11 13 = g 11 13 := ng77 11 13 (by omega)
                have qt80 : g77 27 12 = g 27 12 := ng77 27 12 (by omega)
                refine lv_aload_n hx hb dX7_port_55 rfl (lv_at hl 0 rfl) ?_
                refine he_getr (C := RX7) (T := TX7) (N := 24) (ci := 7) (kd := 11) hx hb hts iX7_port_X7 hown hK hJ k0 rfl rfl 11 (by decide) (hts (.fieldLink RX7 43 "NeighborBookModel" "waits" "[I") (List.mem_of_getElem? (i := 2) rfl)) (fun _ h9 => h9) rfl dX7_port_56 (fun b81 kb81 => ?_)
                refine lv_iload_n hx hb dX7_port_59 rfl (lv_at hl 1 rfl) ?_
                refine lv_iload_n hx hb dX7_port_60 rfl (lv_at hl 2 rfl) ?_
                refine he_iastx (kd := 24) (n := 4) hx hb hK hJ kb81 rfl (by omega) (by omega) (by decide) hW rfl (sp := (0, 0)) rfl rfl rfl dX7_port_61 (fun g82 H locs eg82 ng82 hJ => ?_)
                have eg82 : g82 24 p1.toInt.toNat = up.toInt := eg82
                have P83 : hg_Q (fun a b => a = 11 ∧ (b = 13 ∨ b = 22 ∨ b = 23) ∨ (20 ≤ a ∧ a ≤ 30)) g g82 := hg_Q.put P78 ng82 (show 24 = 11 ∧ (p1.toInt.toNat = 13 ∨ p1.toInt.toNat = 22 ∨ p1.toInt.toNat = 23) ∨ (20 ≤ 24 ∧ 24 ≤ 30) from by omega)
                have qt84 : g82 11 13 = g77 11 13 := ng82 11 13 (by omega)
                have qt85 : g82 27 12 = g77 27 12 := ng82 27 12 (by omega)
                refine lv_aload_n hx hb dX7_port_62 rfl (lv_at hl 0 rfl) ?_
                refine he_getr (C := RX7) (T := TX7) (N := 24) (ci := 7) (kd := 11) hx hb hts iX7_port_X7 hown hK hJ k0 rfl rfl 12 (by decide) (hts (.fieldLink RX7 46 "NeighborBookModel" "quicks" "[I") (List.mem_of_getElem? (i := 3) rfl)) (fun _ h9 => h9) rfl dX7_port_63 (fun b86 kb86 => ?_)
                refine lv_iload_n hx hb dX7_port_66 rfl (lv_at hl 1 rfl) ?_
                refine lv_iload_n hx hb dX7_port_67 rfl (lv_at hl 2 rfl) ?_
                refine hq_iconst hx hb dX7_port_68 (by decide) (by decide) (fun z87 ez87 => ?_)
                refine hq_icmp_ne (tgt := 79) hx hb dX7_port_69 (by decide) (fun c88 => ?_) (fun c88 => ?_)
                · exfalso; omega
                · refine lv_aload_n hx hb dX7_port_72 rfl (lv_at hl 0 rfl) ?_
                  refine he_geti (C := RX7) (T := TX7) (N := 24) (ci := 7) (kd := 11) hx hb hts iX7_port_X7 hown hK hJ k0 rfl rfl 6 (by decide) (hts (.fieldLink RX7 27 "NeighborBookModel" "quick" "I") (List.mem_of_getElem? (i := 4) rfl)) (fun _ h9 => h9) rfl rfl dX7_port_73 (fun x89 ex89 => ?_)
                  refine lv_goto (tgt := 80) hx hb dX7_port_76 (by decide) ?_
                  refine he_iastx (kd := 25) (n := 4) hx hb hK hJ kb86 rfl (by omega) (by omega) (by decide) hW rfl (sp := (0, 0)) rfl rfl rfl dX7_port_80 (fun g90 H locs eg90 ng90 hJ => ?_)
                  have eg90 : g90 25 p1.toInt.toNat = x89.toInt := eg90
                  have P91 : hg_Q (fun a b => a = 11 ∧ (b = 13 ∨ b = 22 ∨ b = 23) ∨ (20 ≤ a ∧ a ≤ 30)) g g90 := hg_Q.put P83 ng90 (show 25 = 11 ∧ (p1.toInt.toNat = 13 ∨ p1.toInt.toNat = 22 ∨ p1.toInt.toNat = 23) ∨ (20 ≤ 25 ∧ 25 ≤ 30) from by omega)
                  have qt92 : g90 11 13 = g82 11 13 := ng90 11 13 (by omega)
                  have qt93 : g90 27 12 = g82 27 12 := ng90 27 12 (by omega)
                  have hT0 : hm_tab g90 = hm_tab g := hm_tab_same hsz (by omega) (by omega) (fun a b h9 => by rw [ng90 a b (by omega), ng82 a b (by omega), ng77 a b (by omega)])
                  have hU0 : (∀ j : Nat, j < 4 → g90 20 j = if j = p1.toInt.toNat then up.toInt else g 20 j) := fun j hj => by
                    rw [ng90 20 j (by omega), ng82 20 j (by omega)]
                    by_cases h9 : j = p1.toInt.toNat
                    · rw [if_pos h9, h9, eg77]; omega
                    · rw [if_neg h9, ng77 20 j (by omega)]
                  refine lv_iload_n hx hb dX7_port_81 rfl (lv_at hl 2 rfl) ?_
                  refine hq_if_ne (tgt := 123) hx hb dX7_port_82 (by decide) (fun c94 => ?_) (fun c94 => ?_)
                  · refine hq_iconst hx hb dX7_port_123 (by decide) (by decide) (fun z95 ez95 => ?_)
                    exact he_iret hx hb hK hN hW hlocks hJ hr ⟨P91, Or.inl ⟨by omega, by omega, hT0, hU0⟩, by omega⟩ dX7_port_124
                  · exfalso; omega
            · refine hq_iconst hx hb dX7_port_37 (by decide) (by decide) (fun z96 ez96 => ?_)
              exact he_iret hx hb hK hN hW hlocks hJ hr ⟨hg_Q.rf, Or.inr (Or.inr ⟨by omega, rfl⟩), rfl⟩ dX7_port_38
