set_option maxRecDepth 100000 in
set_option maxHeartbeats 4000000 in
theorem e_X7_neighborX (l : Launch) (dC : Nat → ClassId) (dI : Nat → Nat → Nat) (dA : Nat → ClassId) (κ : Nat → Nat) (B : Nat) (g : Nat → Nat → Int) (h0 : Nat) (k0 : κ h0 = 11) (i : Int32) (what : Int32) : Met l yX7_neighbor wsX7_neighbor ({ frames := 0, cells := 0, slots := 0, locals := 0 } : Room) (he_Pre dC dI dA κ B g [Value.ref h0, Value.int i, Value.int what]) (he_Qi dC dI dA κ B (fun r u => g = u ∧ r.toInt = hr_nb (hm_tab g) i.toInt what.toInt)) 0 0 (hp_A B) := by
  refine Met.ofW (cc := cX7_neighbor) (maxL := 5) (ret := (some .int)) (by decide) rfl ?_
  intro p e s m args below meth c s₁ Bd hml hv
  obtain ⟨rfl, hK, hN, hW, hF⟩ := hv
  have hx := Bd.exec
  have hb := Bd.bytes
  have hr := Bd.returns
  have hts := atoms_spec (ws := wsX7_neighbor) Bd.pre
  have hown : s.vm.findClass RX7 = some m.cls := findClass_of_methodNamed Bd.named
  have hlocks := Bd.notSynchronized
  have hJ : he_J dC dI dA κ B g s.heap s.heap [] := ⟨hF, va_S.rf⟩
  have hl := lv_entry ([Value.ref h0, Value.int i, Value.int what]) (n := 5) (Nat.le_of_ble_eq_true rfl)
  rw [lg_entry_eq]
  generalize (lg_sl ([Value.ref h0, Value.int i, Value.int what]) ++ List.replicate (5 - (lg_sl ([Value.ref h0, Value.int i, Value.int what])).length) Slot.unset).toArray = ls at hl ⊢
  have hl : lv_has ls 5 [(0, .ref h0), (1, .int i), (2, .int what)] := hl
  have hsz := he_msz hJ k0
  have hkn := he_m13 hJ k0
  have hlen := hm_tab_len g
  refine lv_iload_n hx hb dX7_neighbor_0 rfl (lv_at hl 1 rfl) ?_
  refine hq_if_lt (tgt := 21) hx hb dX7_neighbor_1 (by decide) (fun c1 => ?_) (fun c1 => ?_)
  · refine hq_iconst hx hb dX7_neighbor_21 (by decide) (by decide) (fun z2 ez2 => ?_)
    exact he_iret hx hb hK hN hW hlocks hJ hr ⟨rfl, by rw [hr_nb_no (by rw [hlen]; omega)]; omega⟩ dX7_neighbor_22
  · refine lv_iload_n hx hb dX7_neighbor_4 rfl (lv_at hl 1 rfl) ?_
    refine lv_aload_n hx hb dX7_neighbor_5 rfl (lv_at hl 0 rfl) ?_
    refine he_geti (C := RX7) (T := TX7) (N := 24) (ci := 7) (kd := 11) hx hb hts iX7_neighbor_X7 hown hK hJ k0 rfl rfl 13 (by decide) (hts (.fieldLink RX7 91 "NeighborBookModel" "known" "I") (List.mem_of_getElem? (i := 1) rfl)) (fun _ h9 => h9) rfl rfl dX7_neighbor_6 (fun x3 ex3 => ?_)
    have ex3 : x3.toInt = g 11 13 ∧ 0 ≤ x3.toInt ∧ x3.toInt ≤ 12 := ex3
    refine hq_icmp_ge (tgt := 21) hx hb dX7_neighbor_9 (by decide) (fun c4 => ?_) (fun c4 => ?_)
    · refine hq_iconst hx hb dX7_neighbor_21 (by decide) (by decide) (fun z5 ez5 => ?_)
      exact he_iret hx hb hK hN hW hlocks hJ hr ⟨rfl, by
        by_cases hil : i.toInt < g 11 13
        · rw [hr_nb_at (by omega) (by rw [hlen]; omega), if_neg (by omega), if_neg (by omega), if_neg (by omega), if_neg (by omega)]; omega
        · rw [hr_nb_no (by rw [hlen]; omega)]; omega⟩ dX7_neighbor_22
    · refine lv_iload_n hx hb dX7_neighbor_12 rfl (lv_at hl 2 rfl) ?_
      refine hq_if_lt (tgt := 21) hx hb dX7_neighbor_13 (by decide) (fun c6 => ?_) (fun c6 => ?_)
      · refine hq_iconst hx hb dX7_neighbor_21 (by decide) (by decide) (fun z7 ez7 => ?_)
        exact he_iret hx hb hK hN hW hlocks hJ hr ⟨rfl, by
          by_cases hil : i.toInt < g 11 13
          · rw [hr_nb_at (by omega) (by rw [hlen]; omega), if_neg (by omega), if_neg (by omega), if_neg (by omega), if_neg (by omega)]; omega
          · rw [hr_nb_no (by rw [hlen]; omega)]; omega⟩ dX7_neighbor_22
      · refine lv_iload_n hx hb dX7_neighbor_16 rfl (lv_at hl 2 rfl) ?_
        refine hq_iconst hx hb dX7_neighbor_17 (by decide) (by decide) (fun z8 ez8 => ?_)
        refine hq_icmp_le (tgt := 23) hx hb dX7_neighbor_18 (by decide) (fun c9 => ?_) (fun c9 => ?_)
        · refine lv_iload_n hx hb dX7_neighbor_23 rfl (lv_at hl 2 rfl) ?_
          refine hq_if_ne (tgt := 34) hx hb dX7_neighbor_24 (by decide) (fun c10 => ?_) (fun c10 => ?_)
          · refine lv_iload_n hx hb dX7_neighbor_34 rfl (lv_at hl 2 rfl) ?_
            refine hq_iconst hx hb dX7_neighbor_35 (by decide) (by decide) (fun z11 ez11 => ?_)
            refine hq_icmp_ne (tgt := 46) hx hb dX7_neighbor_36 (by decide) (fun c12 => ?_) (fun c12 => ?_)
            · refine lv_iload_n hx hb dX7_neighbor_46 rfl (lv_at hl 2 rfl) ?_
              refine hq_iconst hx hb dX7_neighbor_47 (by decide) (by decide) (fun z13 ez13 => ?_)
              refine hq_icmp_ne (tgt := 58) hx hb dX7_neighbor_48 (by decide) (fun c14 => ?_) (fun c14 => ?_)
              · refine hq_iconst hx hb dX7_neighbor_58 (by decide) (by decide) (fun z15 ez15 => ?_)
                refine lv_istore_n (lv' := [(3, .int z15), (0, .ref h0), (1, .int i), (2, .int what)]) hx hb dX7_neighbor_59 rfl hl (by decide) rfl (fun ls hl => ?_)
                refine hq_iconst hx hb dX7_neighbor_60 (by decide) (by decide) (fun z16 ez16 => ?_)
                refine lv_istore (lv' := [(4, .int z16), (3, .int z15), (0, .ref h0), (1, .int i), (2, .int what)]) hx hb dX7_neighbor_61 hl (by decide) rfl (fun ls hl => ?_)
                have lp19 : ∀ (nlp19 : Nat) (v17 : Int32) (v18 : Int32) (H : Heap) (locs : List Loc) (ls : Array Slot), (1 ≤ v18.toInt) → (v18.toInt ≤ 9) → (0 ≤ i.toInt ∧ i.toInt < g 11 13) → (v17 = hb_tb (fun t => decide (t ≠ 0) && decide (t ≠ 3) && decide (g 30 (9 * i.toInt.toNat + t) ≠ -1)) v18.toInt.toNat) → (10 - v18.toInt < (nlp19 : Int)) → he_J dC dI dA κ B g s.heap H locs → lv_has ls 5 [(0, .ref h0), (1, .int i), (2, .int what), (3, .int v17), (4, .int v18)] → W p l e (headSpec wsX7_neighbor ({ frames := 0, cells := 0, slots := 0, locals := 0 } : Room)).room s m ([Value.ref h0, Value.int i, Value.int what] : List Value).toArray below meth c H locs 0 0 (MQ below (he_Qi dC dI dA κ B (fun r u => g = u ∧ r.toInt = hr_nb (hm_tab g) i.toInt what.toInt)) ([Value.ref h0, Value.int i, Value.int what] : List Value).toArray s 0 0 (hp_A B)) (F0 m 63 ls []) := by
                  intro nlp19
                  induction nlp19 with
                  | zero => intro v17 v18 H locs ls iv21 iv22 iv23 iv24 hm20 hJ hl; exact absurd hm20 (by omega)
                  | succ nlp19 ihlp19 =>
                    intro v17 v18 H locs ls iv21 iv22 iv23 iv24 hm20 hJ hl
                    refine lv_iload hx hb dX7_neighbor_63 (lv_at hl 4 rfl) ?_
                    refine hq_bipush hx hb dX7_neighbor_65 (by decide) (fun z25 ez25 => ?_)
                    refine hq_icmp_ge (tgt := 109) hx hb dX7_neighbor_67 (by decide) (fun c26 => ?_) (fun c26 => ?_)
                    · refine lv_iload_n hx hb dX7_neighbor_109 rfl (lv_at hl 3 rfl) ?_
                      exact he_iret hx hb hK hN hW hlocks hJ hr ⟨rfl, by
                        have hil : i.toInt.toNat < (hm_tab g).length := by rw [hlen]; omega
                        rw [hr_nb_at (by omega) hil, hm_tab_get]
                        have h9 := iv24
                        rw [show v18.toInt.toNat = 9 by omega] at h9
                        rw [if_neg (by omega), if_neg (by omega), if_neg (by omega), if_pos (by omega), h9, hb_tb_cg (f := (fun t => decide (t ≠ 0) && decide (t ≠ 3) && decide (g 30 (9 * i.toInt.toNat + t) ≠ -1))) (f' := hb_f (hm_row g i.toInt.toNat).2.2.2) (fun t ht => (hb_f_m ht).symm)]⟩ dX7_neighbor_110
                    · refine lv_iload_n hx hb dX7_neighbor_70 rfl (lv_at hl 3 rfl) ?_
                      refine lv_iload hx hb dX7_neighbor_71 (lv_at hl 4 rfl) ?_
                      refine hq_iconst hx hb dX7_neighbor_73 (by decide) (by decide) (fun z27 ez27 => ?_)
                      refine hq_icmp_eq (tgt := 100) hx hb dX7_neighbor_74 (by decide) (fun c28 => ?_) (fun c28 => ?_)
                      · refine hq_iconst hx hb dX7_neighbor_100 (by decide) (by decide) (fun z29 ez29 => ?_)
                        refine hq_iorE hx hb dX7_neighbor_101 (fun x30 ex30 => ?_)
                        refine lv_istore_n (lv' := [(3, .int x30), (0, .ref h0), (1, .int i), (2, .int what), (4, .int v18)]) hx hb dX7_neighbor_102 rfl hl (by decide) rfl (fun ls hl => ?_)
                        have htb : x30 = hb_tb (fun t => decide (t ≠ 0) && decide (t ≠ 3) && decide (g 30 (9 * i.toInt.toNat + t) ≠ -1)) (v18.toInt.toNat + 1) := by
                          rw [ex30, show z29 = 0 from hi_eq.mpr (by rw [ez29]; rfl), Int32.or_zero, hb_tb_f (by show (decide _ && decide _ && decide _) = false; rw [decide_eq_false (p := v18.toInt.toNat ≠ 3) (by omega), Bool.and_false, Bool.false_and])]
                          exact iv24
                        refine hq_iinc (k := 4) (lv' := fun (z9 : Int32) => [(4, .int z9), (3, .int x30), (0, .ref h0), (1, .int i), (2, .int what)]) hx hb dX7_neighbor_103 hl rfl (by decide) (by decide) (by omega) (by omega) (by decide) (fun _ => rfl) (fun x31 ls ex31 hl => ?_)
                        have hl : lv_has ls 5 [(4, .int x31), (3, .int x30), (0, .ref h0), (1, .int i), (2, .int what)] := hl
                        refine lv_goto (tgt := 63) hx hb dX7_neighbor_106 (by decide) ?_
                        exact ihlp19 x30 x31 _ _ ls (by omega) (by omega) (by omega) (by rw [show x31.toInt.toNat = v18.toInt.toNat + 1 by omega]; exact htb) (by omega) hJ (lv_sub hl [2, 3, 4, 1, 0] rfl)
                      · refine lv_aload_n hx hb dX7_neighbor_77 rfl (lv_at hl 0 rfl) ?_
                        refine he_getr (C := RX7) (T := TX7) (N := 24) (ci := 7) (kd := 11) hx hb hts iX7_neighbor_X7 hown hK hJ k0 rfl rfl 18 (by decide) (hts (.fieldLink RX7 61 "NeighborBookModel" "sizes" "[I") (List.mem_of_getElem? (i := 5) rfl)) (fun _ h9 => h9) rfl dX7_neighbor_78 (fun b32 kb32 => ?_)
                        refine hq_bipush hx hb dX7_neighbor_81 (by decide) (fun z33 ez33 => ?_)
                        refine lv_iload_n hx hb dX7_neighbor_83 rfl (lv_at hl 1 rfl) ?_
                        refine hq_imul (w := 9 * i.toInt) hx hb dX7_neighbor_84 (by rw [ez33]) (by omega) (by omega) (fun x34 ex34 => ?_)
                        refine lv_iload hx hb dX7_neighbor_85 (lv_at hl 4 rfl) ?_
                        refine hq_iadd hx hb dX7_neighbor_87 (by omega) (by omega) (fun x35 ex35 => ?_)
                        refine he_iald (kd := 30) (n := 117) hx hb hK hJ kb32 rfl (by omega) (by omega) (sp := (10, 60)) rfl rfl dX7_neighbor_88 (fun x36 ex36 => ?_)
                        have ex36 : x36.toInt = g 30 x35.toInt.toNat ∧ -1 ≤ x36.toInt ∧ x36.toInt ≤ 60 := ex36
                        refine hq_iconst hx hb dX7_neighbor_89 (by decide) (by decide) (fun z37 ez37 => ?_)
                        refine hq_icmp_eq (tgt := 100) hx hb dX7_neighbor_90 (by decide) (fun c38 => ?_) (fun c38 => ?_)
                        · refine hq_iconst hx hb dX7_neighbor_100 (by decide) (by decide) (fun z39 ez39 => ?_)
                          refine hq_iorE hx hb dX7_neighbor_101 (fun x40 ex40 => ?_)
                          refine lv_istore_n (lv' := [(3, .int x40), (0, .ref h0), (1, .int i), (2, .int what), (4, .int v18)]) hx hb dX7_neighbor_102 rfl hl (by decide) rfl (fun ls hl => ?_)
                          have htb : x40 = hb_tb (fun t => decide (t ≠ 0) && decide (t ≠ 3) && decide (g 30 (9 * i.toInt.toNat + t) ≠ -1)) (v18.toInt.toNat + 1) := by
                            rw [ex40, show z39 = 0 from hi_eq.mpr (by rw [ez39]; rfl), Int32.or_zero, hb_tb_f (by show (decide _ && decide _ && decide _) = false; rw [decide_eq_false (p := g 30 (9 * i.toInt.toNat + v18.toInt.toNat) ≠ -1) (by rw [show 9 * i.toInt.toNat + v18.toInt.toNat = x35.toInt.toNat by omega]; omega), Bool.and_false])]
                            exact iv24
                          refine hq_iinc (k := 4) (lv' := fun (z9 : Int32) => [(4, .int z9), (3, .int x40), (0, .ref h0), (1, .int i), (2, .int what)]) hx hb dX7_neighbor_103 hl rfl (by decide) (by decide) (by omega) (by omega) (by decide) (fun _ => rfl) (fun x41 ls ex41 hl => ?_)
                          have hl : lv_has ls 5 [(4, .int x41), (3, .int x40), (0, .ref h0), (1, .int i), (2, .int what)] := hl
                          refine lv_goto (tgt := 63) hx hb dX7_neighbor_106 (by decide) ?_
                          exact ihlp19 x40 x41 _ _ ls (by omega) (by omega) (by omega) (by rw [show x41.toInt.toNat = v18.toInt.toNat + 1 by omega]; exact htb) (by omega) hJ (lv_sub hl [2, 3, 4, 1, 0] rfl)
                        · refine hq_iconst hx hb dX7_neighbor_93 (by decide) (by decide) (fun z42 ez42 => ?_)
                          refine lv_iload hx hb dX7_neighbor_94 (lv_at hl 4 rfl) ?_
                          refine hq_ishlE hx hb dX7_neighbor_96 (fun x43 ex43 => ?_)
                          refine lv_goto (tgt := 101) hx hb dX7_neighbor_97 (by decide) ?_
                          refine hq_iorE hx hb dX7_neighbor_101 (fun x44 ex44 => ?_)
                          refine lv_istore_n (lv' := [(3, .int x44), (0, .ref h0), (1, .int i), (2, .int what), (4, .int v18)]) hx hb dX7_neighbor_102 rfl hl (by decide) rfl (fun ls hl => ?_)
                          have hv4 : Int32.ofNat v18.toInt.toNat = v18 := hi_eq.mpr (by rw [show (Int32.ofNat v18.toInt.toNat).toInt = ((v18.toInt.toNat : Nat) : Int) from nI_toInt (by omega)]; omega)
                          have htb : x44 = hb_tb (fun t => decide (t ≠ 0) && decide (t ≠ 3) && decide (g 30 (9 * i.toInt.toNat + t) ≠ -1)) (v18.toInt.toNat + 1) := by
                            rw [hb_tb_t (by show (decide _ && decide _ && decide _) = true; rw [decide_eq_true (p := v18.toInt.toNat ≠ 0) (by omega), decide_eq_true (p := v18.toInt.toNat ≠ 3) (by omega), decide_eq_true (p := g 30 (9 * i.toInt.toNat + v18.toInt.toNat) ≠ -1) (by rw [show 9 * i.toInt.toNat + v18.toInt.toNat = x35.toInt.toNat by omega]; omega)]; rfl), hv4, ← iv24, ex44, ex43, show z42 = 1 from hi_eq.mpr (by rw [ez42]; rfl)]
                          refine hq_iinc (k := 4) (lv' := fun (z9 : Int32) => [(4, .int z9), (3, .int x44), (0, .ref h0), (1, .int i), (2, .int what)]) hx hb dX7_neighbor_103 hl rfl (by decide) (by decide) (by omega) (by omega) (by decide) (fun _ => rfl) (fun x45 ls ex45 hl => ?_)
                          have hl : lv_has ls 5 [(4, .int x45), (3, .int x44), (0, .ref h0), (1, .int i), (2, .int what)] := hl
                          refine lv_goto (tgt := 63) hx hb dX7_neighbor_106 (by decide) ?_
                          exact ihlp19 x44 x45 _ _ ls (by omega) (by omega) (by omega) (by rw [show x45.toInt.toNat = v18.toInt.toNat + 1 by omega]; exact htb) (by omega) hJ (lv_sub hl [2, 3, 4, 1, 0] rfl)
                exact lp19 ((10 - z16.toInt).toNat + 1) z15 z16 _ _ ls (by omega) (by omega) (by omega) (by rw [show z16.toInt.toNat = 1 by omega, show z15 = 0 from hi_eq.mpr (by rw [ez15]; rfl)]; rfl) (by omega) hJ (lv_sub hl [2, 3, 4, 1, 0] rfl)
              · refine lv_aload_n hx hb dX7_neighbor_51 rfl (lv_at hl 0 rfl) ?_
                refine he_getr (C := RX7) (T := TX7) (N := 24) (ci := 7) (kd := 11) hx hb hts iX7_neighbor_X7 hown hK hJ k0 rfl rfl 16 (by decide) (hts (.fieldLink RX7 55 "NeighborBookModel" "frames" "[I") (List.mem_of_getElem? (i := 4) rfl)) (fun _ h9 => h9) rfl dX7_neighbor_52 (fun b46 kb46 => ?_)
                refine lv_iload_n hx hb dX7_neighbor_55 rfl (lv_at hl 1 rfl) ?_
                refine he_iald (kd := 28) (n := 13) hx hb hK hJ kb46 rfl (by omega) (by omega) (sp := (0, 0)) rfl rfl dX7_neighbor_56 (fun x47 ex47 => ?_)
                have ex47 : x47.toInt = g 28 i.toInt.toNat := ex47
                exact he_iret hx hb hK hN hW hlocks hJ hr ⟨rfl, by
                  have hil : i.toInt.toNat < (hm_tab g).length := by rw [hlen]; omega
                  rw [hr_nb_at (by omega) hil, hm_tab_get]
                  rw [if_neg (by omega), if_neg (by omega), if_pos (by omega)]; show _ = g 28 i.toInt.toNat; omega⟩ dX7_neighbor_57
            · refine lv_aload_n hx hb dX7_neighbor_39 rfl (lv_at hl 0 rfl) ?_
              refine he_getr (C := RX7) (T := TX7) (N := 24) (ci := 7) (kd := 11) hx hb hts iX7_neighbor_X7 hown hK hJ k0 rfl rfl 15 (by decide) (hts (.fieldLink RX7 52 "NeighborBookModel" "left" "[I") (List.mem_of_getElem? (i := 3) rfl)) (fun _ h9 => h9) rfl dX7_neighbor_40 (fun b48 kb48 => ?_)
              refine lv_iload_n hx hb dX7_neighbor_43 rfl (lv_at hl 1 rfl) ?_
              refine he_iald (kd := 27) (n := 13) hx hb hK hJ kb48 rfl (by omega) (by omega) (sp := (0, 0)) rfl rfl dX7_neighbor_44 (fun x49 ex49 => ?_)
              have ex49 : x49.toInt = g 27 i.toInt.toNat := ex49
              exact he_iret hx hb hK hN hW hlocks hJ hr ⟨rfl, by
                have hil : i.toInt.toNat < (hm_tab g).length := by rw [hlen]; omega
                rw [hr_nb_at (by omega) hil, hm_tab_get]
                rw [if_neg (by omega), if_pos (by omega)]; show _ = g 27 i.toInt.toNat; omega⟩ dX7_neighbor_45
          · refine lv_aload_n hx hb dX7_neighbor_27 rfl (lv_at hl 0 rfl) ?_
            refine he_getr (C := RX7) (T := TX7) (N := 24) (ci := 7) (kd := 11) hx hb hts iX7_neighbor_X7 hown hK hJ k0 rfl rfl 14 (by decide) (hts (.fieldLink RX7 49 "NeighborBookModel" "ports" "[I") (List.mem_of_getElem? (i := 2) rfl)) (fun _ h9 => h9) rfl dX7_neighbor_28 (fun b50 kb50 => ?_)
            refine lv_iload_n hx hb dX7_neighbor_31 rfl (lv_at hl 1 rfl) ?_
            refine he_iald (kd := 26) (n := 13) hx hb hK hJ kb50 rfl (by omega) (by omega) (sp := (9, 3)) rfl rfl dX7_neighbor_32 (fun x51 ex51 => ?_)
            have ex51 : x51.toInt = g 26 i.toInt.toNat ∧ 0 ≤ x51.toInt ∧ x51.toInt ≤ 3 := ex51
            exact he_iret hx hb hK hN hW hlocks hJ hr ⟨rfl, by
              have hil : i.toInt.toNat < (hm_tab g).length := by rw [hlen]; omega
              rw [hr_nb_at (by omega) hil, hm_tab_get]
              rw [if_pos (by omega)]; show _ = g 26 i.toInt.toNat; omega⟩ dX7_neighbor_33
        · refine hq_iconst hx hb dX7_neighbor_21 (by decide) (by decide) (fun z52 ez52 => ?_)
          exact he_iret hx hb hK hN hW hlocks hJ hr ⟨rfl, by
            by_cases hil : i.toInt < g 11 13
            · rw [hr_nb_at (by omega) (by rw [hlen]; omega), if_neg (by omega), if_neg (by omega), if_neg (by omega), if_neg (by omega)]; omega
            · rw [hr_nb_no (by rw [hlen]; omega)]; omega⟩ dX7_neighbor_22
set_option maxRecDepth 100000 in
set_option maxHeartbeats 4000000 in
theorem e_X7_contentX (l : Launch) (dC : Nat → ClassId) (dI : Nat → Nat → Nat) (dA : Nat → ClassId) (κ : Nat → Nat) (B : Nat) (g : Nat → Nat → Int) (h0 : Nat) (k0 : κ h0 = 11) (i : Int32) (type : Int32) (k : Int32) : Met l yX7_content wsX7_content ({ frames := 0, cells := 0, slots := 0, locals := 0 } : Room) (he_Pre dC dI dA κ B g [Value.ref h0, Value.int i, Value.int type, Value.int k]) (he_Qi dC dI dA κ B (fun r u => g = u ∧ r.toInt = hr_ct (hm_tab g) i.toInt type.toInt k.toInt)) 0 0 (hp_A B) := by
  refine Met.ofW (cc := cX7_content) (maxL := 5) (ret := (some .int)) (by decide) rfl ?_
  intro p e s m args below meth c s₁ Bd hml hv
  obtain ⟨rfl, hK, hN, hW, hF⟩ := hv
  have hx := Bd.exec
  have hb := Bd.bytes
  have hr := Bd.returns
  have hts := atoms_spec (ws := wsX7_content) Bd.pre
  have hown : s.vm.findClass RX7 = some m.cls := findClass_of_methodNamed Bd.named
  have hlocks := Bd.notSynchronized
  have hJ : he_J dC dI dA κ B g s.heap s.heap [] := ⟨hF, va_S.rf⟩
  have hl := lv_entry ([Value.ref h0, Value.int i, Value.int type, Value.int k]) (n := 5) (Nat.le_of_ble_eq_true rfl)
  rw [lg_entry_eq]
  generalize (lg_sl ([Value.ref h0, Value.int i, Value.int type, Value.int k]) ++ List.replicate (5 - (lg_sl ([Value.ref h0, Value.int i, Value.int type, Value.int k])).length) Slot.unset).toArray = ls at hl ⊢
  have hl : lv_has ls 5 [(0, .ref h0), (1, .int i), (2, .int type), (3, .int k)] := hl
  have hsz := he_msz hJ k0
  have hkn := he_m13 hJ k0
  have hlen := hm_tab_len g
  refine lv_iload_n hx hb dX7_content_0 rfl (lv_at hl 1 rfl) ?_
  refine hq_if_lt (tgt := 28) hx hb dX7_content_1 (by decide) (fun c1 => ?_) (fun c1 => ?_)
  · refine hq_iconst hx hb dX7_content_28 (by decide) (by decide) (fun z2 ez2 => ?_)
    exact he_iret hx hb hK hN hW hlocks hJ hr ⟨rfl, by rw [hr_ct_no (by rw [hlen]; omega)]; omega⟩ dX7_content_29
  · refine lv_iload_n hx hb dX7_content_4 rfl (lv_at hl 1 rfl) ?_
    refine lv_aload_n hx hb dX7_content_5 rfl (lv_at hl 0 rfl) ?_
    refine he_geti (C := RX7) (T := TX7) (N := 24) (ci := 7) (kd := 11) hx hb hts iX7_content_X7 hown hK hJ k0 rfl rfl 13 (by decide) (hts (.fieldLink RX7 91 "NeighborBookModel" "known" "I") (List.mem_of_getElem? (i := 1) rfl)) (fun _ h9 => h9) rfl rfl dX7_content_6 (fun x3 ex3 => ?_)
    have ex3 : x3.toInt = g 11 13 ∧ 0 ≤ x3.toInt ∧ x3.toInt ≤ 12 := ex3
    refine hq_icmp_ge (tgt := 28) hx hb dX7_content_9 (by decide) (fun c4 => ?_) (fun c4 => ?_)
    · refine hq_iconst hx hb dX7_content_28 (by decide) (by decide) (fun z5 ez5 => ?_)
      exact he_iret hx hb hK hN hW hlocks hJ hr ⟨rfl, by
        by_cases hil : i.toInt < g 11 13
        · rw [hr_ct_at (by omega) (by rw [hlen]; omega), if_neg (by omega)]; omega
        · rw [hr_ct_no (by rw [hlen]; omega)]; omega⟩ dX7_content_29
    · refine lv_iload_n hx hb dX7_content_12 rfl (lv_at hl 2 rfl) ?_
      refine hq_iconst hx hb dX7_content_13 (by decide) (by decide) (fun z6 ez6 => ?_)
      refine hq_icmp_lt (tgt := 28) hx hb dX7_content_14 (by decide) (fun c7 => ?_) (fun c7 => ?_)
      · refine hq_iconst hx hb dX7_content_28 (by decide) (by decide) (fun z8 ez8 => ?_)
        exact he_iret hx hb hK hN hW hlocks hJ hr ⟨rfl, by
          by_cases hil : i.toInt < g 11 13
          · rw [hr_ct_at (by omega) (by rw [hlen]; omega), if_neg (by omega)]; omega
          · rw [hr_ct_no (by rw [hlen]; omega)]; omega⟩ dX7_content_29
      · refine lv_iload_n hx hb dX7_content_17 rfl (lv_at hl 2 rfl) ?_
        refine hq_bipush hx hb dX7_content_18 (by decide) (fun z9 ez9 => ?_)
        refine hq_icmp_ge (tgt := 28) hx hb dX7_content_20 (by decide) (fun c10 => ?_) (fun c10 => ?_)
        · refine hq_iconst hx hb dX7_content_28 (by decide) (by decide) (fun z11 ez11 => ?_)
          exact he_iret hx hb hK hN hW hlocks hJ hr ⟨rfl, by
            by_cases hil : i.toInt < g 11 13
            · rw [hr_ct_at (by omega) (by rw [hlen]; omega), if_neg (by omega)]; omega
            · rw [hr_ct_no (by rw [hlen]; omega)]; omega⟩ dX7_content_29
        · refine lv_iload_n hx hb dX7_content_23 rfl (lv_at hl 2 rfl) ?_
          refine hq_iconst hx hb dX7_content_24 (by decide) (by decide) (fun z12 ez12 => ?_)
          refine hq_icmp_ne (tgt := 30) hx hb dX7_content_25 (by decide) (fun c13 => ?_) (fun c13 => ?_)
          · refine lv_aload_n hx hb dX7_content_30 rfl (lv_at hl 0 rfl) ?_
            refine he_getr (C := RX7) (T := TX7) (N := 24) (ci := 7) (kd := 11) hx hb hts iX7_content_X7 hown hK hJ k0 rfl rfl 18 (by decide) (hts (.fieldLink RX7 61 "NeighborBookModel" "sizes" "[I") (List.mem_of_getElem? (i := 2) rfl)) (fun _ h9 => h9) rfl dX7_content_31 (fun b14 kb14 => ?_)
            refine hq_bipush hx hb dX7_content_34 (by decide) (fun z15 ez15 => ?_)
            refine lv_iload_n hx hb dX7_content_36 rfl (lv_at hl 1 rfl) ?_
            refine hq_imul (w := 9 * i.toInt) hx hb dX7_content_37 (by rw [ez15]) (by omega) (by omega) (fun x16 ex16 => ?_)
            refine lv_iload_n hx hb dX7_content_38 rfl (lv_at hl 2 rfl) ?_
            refine hq_iadd hx hb dX7_content_39 (by omega) (by omega) (fun x17 ex17 => ?_)
            refine he_iald (kd := 30) (n := 117) hx hb hK hJ kb14 rfl (by omega) (by omega) (sp := (10, 60)) rfl rfl dX7_content_40 (fun x18 ex18 => ?_)
            have ex18 : x18.toInt = g 30 x17.toInt.toNat ∧ -1 ≤ x18.toInt ∧ x18.toInt ≤ 60 := ex18
            refine lv_istore (lv' := [(4, .int x18), (0, .ref h0), (1, .int i), (2, .int type), (3, .int k)]) hx hb dX7_content_41 hl (by decide) rfl (fun ls hl => ?_)
            refine lv_iload_n hx hb dX7_content_43 rfl (lv_at hl 4 rfl) ?_
            refine hq_iconst hx hb dX7_content_44 (by decide) (by decide) (fun z19 ez19 => ?_)
            refine hq_icmp_eq (tgt := 54) hx hb dX7_content_45 (by decide) (fun c20 => ?_) (fun c20 => ?_)
            · refine lv_iload hx hb dX7_content_54 (lv_at hl 0 rfl) ?_
              exact he_iret hx hb hK hN hW hlocks hJ hr ⟨rfl, by
                have hil : i.toInt.toNat < (hm_tab g).length := by rw [hlen]; omega
                rw [hr_ct_at (by omega) hil, hm_tab_get]
                have hs9 : (hm_row g i.toInt.toNat).2.2.2.1 type.toInt.toNat = x18.toInt := by
                  have h9 : (hm_row g i.toInt.toNat).2.2.2.1 type.toInt.toNat = g 30 (9 * i.toInt.toNat + type.toInt.toNat) := hm_con_1 (by omega)
                  rw [h9, show 9 * i.toInt.toNat + type.toInt.toNat = x17.toInt.toNat by omega]; omega
                rw [if_pos (by omega), hs9]
                by_cases hk : k.toInt = -1
                · rw [if_pos hk]
                · rw [if_neg hk, if_neg (by omega)]; omega⟩ dX7_content_56
            · refine lv_iload hx hb dX7_content_48 (lv_at hl 0 rfl) ?_
              refine hq_iconst hx hb dX7_content_50 (by decide) (by decide) (fun z21 ez21 => ?_)
              refine hq_icmp_ne (tgt := 57) hx hb dX7_content_51 (by decide) (fun c22 => ?_) (fun c22 => ?_)
              · refine lv_iload_n hx hb dX7_content_57 rfl (lv_at hl 4 rfl) ?_
                refine hq_if_lt (tgt := 90) hx hb dX7_content_58 (by decide) (fun c23 => ?_) (fun c23 => ?_)
                · refine hq_iconst hx hb dX7_content_90 (by decide) (by decide) (fun z24 ez24 => ?_)
                  exact he_iret hx hb hK hN hW hlocks hJ hr ⟨rfl, by
                    have hil : i.toInt.toNat < (hm_tab g).length := by rw [hlen]; omega
                    rw [hr_ct_at (by omega) hil, hm_tab_get]
                    have hs9 : (hm_row g i.toInt.toNat).2.2.2.1 type.toInt.toNat = x18.toInt := by
                      have h9 : (hm_row g i.toInt.toNat).2.2.2.1 type.toInt.toNat = g 30 (9 * i.toInt.toNat + type.toInt.toNat) := hm_con_1 (by omega)
                      rw [h9, show 9 * i.toInt.toNat + type.toInt.toNat = x17.toInt.toNat by omega]; omega
                    rw [if_pos (by omega), hs9]
                    rw [if_neg (by omega), if_neg (by omega)]; omega⟩ dX7_content_91
                · refine lv_iload_n hx hb dX7_content_61 rfl (lv_at hl 4 rfl) ?_
                  refine lv_iload hx hb dX7_content_62 (lv_at hl 0 rfl) ?_
                  refine hq_icmp_ge (tgt := 90) hx hb dX7_content_64 (by decide) (fun c25 => ?_) (fun c25 => ?_)
                  · refine hq_iconst hx hb dX7_content_90 (by decide) (by decide) (fun z26 ez26 => ?_)
                    exact he_iret hx hb hK hN hW hlocks hJ hr ⟨rfl, by
                      have hil : i.toInt.toNat < (hm_tab g).length := by rw [hlen]; omega
                      rw [hr_ct_at (by omega) hil, hm_tab_get]
                      have hs9 : (hm_row g i.toInt.toNat).2.2.2.1 type.toInt.toNat = x18.toInt := by
                        have h9 : (hm_row g i.toInt.toNat).2.2.2.1 type.toInt.toNat = g 30 (9 * i.toInt.toNat + type.toInt.toNat) := hm_con_1 (by omega)
                        rw [h9, show 9 * i.toInt.toNat + type.toInt.toNat = x17.toInt.toNat by omega]; omega
                      rw [if_pos (by omega), hs9]
                      rw [if_neg (by omega), if_neg (by omega)]; omega⟩ dX7_content_91
                  · refine lv_aload_n hx hb dX7_content_67 rfl (lv_at hl 1 rfl) ?_
                    refine he_getr (C := RX7) (T := TX7) (N := 24) (ci := 7) (kd := 11) hx hb hts iX7_content_X7 hown hK hJ k0 rfl rfl 17 (by decide) (hts (.fieldLink RX7 58 "NeighborBookModel" "bytes" "[B") (List.mem_of_getElem? (i := 3) rfl)) (fun _ h9 => h9) rfl dX7_content_68 (fun b27 kb27 => ?_)
                    refine hq_bipush hx hb dX7_content_71 (by decide) (fun z28 ez28 => ?_)
                    refine lv_iload_n hx hb dX7_content_73 rfl (lv_at hl 2 rfl) ?_
                    refine hq_imul (w := 9 * i.toInt) hx hb dX7_content_74 (by rw [ez28]) (by omega) (by omega) (fun x29 ex29 => ?_)
                    refine lv_iload_n hx hb dX7_content_75 rfl (lv_at hl 3 rfl) ?_
                    refine hq_iadd hx hb dX7_content_76 (by omega) (by omega) (fun x30 ex30 => ?_)
                    refine hq_bipush hx hb dX7_content_77 (by decide) (fun z31 ez31 => ?_)
                    refine hq_imul (w := x30.toInt * 60) hx hb dX7_content_79 (by rw [ez31]) (by omega) (by omega) (fun x32 ex32 => ?_)
                    refine lv_iload_n hx hb dX7_content_80 rfl (lv_at hl 4 rfl) ?_
                    refine hq_iadd hx hb dX7_content_81 (by omega) (by omega) (fun x33 ex33 => ?_)
                    refine he_bald (kd := 29) (n := 7020) hx hb hK hJ kb27 rfl (by omega) (by omega) (sp := (11, 0)) rfl rfl dX7_content_82 (fun x34 ex34 => ?_)
                    have ex34 : x34.toInt = g 29 x33.toInt.toNat ∧ -128 ≤ x34.toInt ∧ x34.toInt ≤ 127 := ex34
                    refine hq_sipush hx hb dX7_content_83 (by decide) (fun z35 ez35 => ?_)
                    refine hq_iand255 hx hb dX7_content_86 ez35 (fun x36 ex36 => ?_)
                    refine lv_goto (tgt := 91) hx hb dX7_content_87 (by decide) ?_
                    exact he_iret hx hb hK hN hW hlocks hJ hr ⟨rfl, by
                      have hil : i.toInt.toNat < (hm_tab g).length := by rw [hlen]; omega
                      rw [hr_ct_at (by omega) hil, hm_tab_get]
                      have hs9 : (hm_row g i.toInt.toNat).2.2.2.1 type.toInt.toNat = x18.toInt := by
                        have h9 : (hm_row g i.toInt.toNat).2.2.2.1 type.toInt.toNat = g 30 (9 * i.toInt.toNat + type.toInt.toNat) := hm_con_1 (by omega)
                        rw [h9, show 9 * i.toInt.toNat + type.toInt.toNat = x17.toInt.toNat by omega]; omega
                      rw [if_pos (by omega), hs9]
                      rw [if_neg (by omega), if_pos (by omega)]
                      have hb9 : (hm_row g i.toInt.toNat).2.2.2.2 type.toInt.toNat k.toInt.toNat = g 29 ((9 * i.toInt.toNat + type.toInt.toNat) * 60 + k.toInt.toNat) := hm_con_2 (by omega) (by rw [show 9 * i.toInt.toNat + type.toInt.toNat = x17.toInt.toNat by omega]; omega)
                      rw [hb9, show (9 * i.toInt.toNat + type.toInt.toNat) * 60 + k.toInt.toNat = x33.toInt.toNat by omega]; omega⟩ dX7_content_91
              · refine lv_iload hx hb dX7_content_54 (lv_at hl 0 rfl) ?_
                exact he_iret hx hb hK hN hW hlocks hJ hr ⟨rfl, by
                  have hil : i.toInt.toNat < (hm_tab g).length := by rw [hlen]; omega
                  rw [hr_ct_at (by omega) hil, hm_tab_get]
                  have hs9 : (hm_row g i.toInt.toNat).2.2.2.1 type.toInt.toNat = x18.toInt := by
                    have h9 : (hm_row g i.toInt.toNat).2.2.2.1 type.toInt.toNat = g 30 (9 * i.toInt.toNat + type.toInt.toNat) := hm_con_1 (by omega)
                    rw [h9, show 9 * i.toInt.toNat + type.toInt.toNat = x17.toInt.toNat by omega]; omega
                  rw [if_pos (by omega), hs9]
                  by_cases hk : k.toInt = -1
                  · rw [if_pos hk]
                  · rw [if_neg hk, if_neg (by omega)]; omega⟩ dX7_content_56
          · refine hq_iconst hx hb dX7_content_28 (by decide) (by decide) (fun z37 ez37 => ?_)
            exact he_iret hx hb hK hN hW hlocks hJ hr ⟨rfl, by
              by_cases hil : i.toInt < g 11 13
              · rw [hr_ct_at (by omega) (by rw [hlen]; omega), if_neg (by omega)]; omega
              · rw [hr_ct_no (by rw [hlen]; omega)]; omega⟩ dX7_content_29
