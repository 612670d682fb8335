theorem iX7_check_X7 : ∀ w ∈ wsX70, w ∈ wsX7_check := fun _ h => List.mem_cons_of_mem _ (List.mem_append_right _ h)
set_option maxRecDepth 100000 in
set_option maxHeartbeats 4000000 in
theorem e_X7_check (l : Launch) (dC : Nat → ClassId) (dI : Nat → Nat → Nat) (dA : Nat → ClassId) (κ : Nat → Nat) (B : Nat) (g : Nat → Nat → Int) (h0 : Nat) (k0 : κ h0 = 11) (hI : hr_inv (hm_tab g) (fun q => g 20 q)) : Met l yX7_check wsX7_check ({ frames := 1, cells := 0, slots := 0, locals := 25 } : Room) (he_Pre dC dI dA κ B g [Value.ref h0]) (he_Qi dC dI dA κ B (fun r u => g = u ∧ r.toInt = 1)) 0 0 (hp_A B) := by
  refine Met.ofW (cc := cX7_check) (maxL := 4) (ret := (some .int)) (by decide) rfl ?_
  intro p e s m args below meth c s₁ Bd hml hv
  obtain ⟨rfl, hK, hN, hW, hF⟩ := hv
  have hx := Bd.exec
  have hb := Bd.bytes
  have hr := Bd.returns
  have hts := atoms_spec (ws := wsX7_check) Bd.pre
  have hown : s.vm.findClass RX7 = some m.cls := findClass_of_methodNamed Bd.named
  have hlocks := Bd.notSynchronized
  have hJ : he_J dC dI dA κ B g s.heap s.heap [] := ⟨hF, va_S.rf⟩
  have hl := lv_entry ([Value.ref h0]) (n := 4) (Nat.le_of_ble_eq_true rfl)
  rw [lg_entry_eq]
  generalize (lg_sl ([Value.ref h0]) ++ List.replicate (4 - (lg_sl ([Value.ref h0])).length) Slot.unset).toArray = ls at hl ⊢
  have hl : lv_has ls 4 [(0, .ref h0)] := hl
  have hsz := he_msz hJ k0
  have hkn := he_m13 hJ k0
  refine hq_iconst hx hb dX7_check_0 (by decide) (by decide) (fun z1 ez1 => ?_)
  refine lv_istore_n (lv' := [(1, .int z1), (0, .ref h0)]) hx hb dX7_check_1 rfl hl (by decide) rfl (fun ls hl => ?_)
  refine hq_iconst hx hb dX7_check_2 (by decide) (by decide) (fun z2 ez2 => ?_)
  refine lv_istore_n (lv' := [(2, .int z2), (1, .int z1), (0, .ref h0)]) hx hb dX7_check_3 rfl hl (by decide) rfl (fun ls hl => ?_)
  have lp5 : ∀ (nlp5 : Nat) (v3 : Int32) (v4 : Int32) (H : Heap) (locs : List Loc) (ls : Array Slot), (v3.toInt = 1) → (0 ≤ v4.toInt) → (v4.toInt ≤ g 11 13) → (13 - v4.toInt < (nlp5 : Int)) → he_J dC dI dA κ B g s.heap H locs → lv_has ls 4 [(0, .ref h0), (1, .int v3), (2, .int v4)] → W p l e (headSpec wsX7_check ({ frames := 1, cells := 0, slots := 0, locals := 25 } : Room)).room s m ([Value.ref h0] : List Value).toArray below meth c H locs 0 0 (MQ below (he_Qi dC dI dA κ B (fun r u => g = u ∧ r.toInt = 1)) ([Value.ref h0] : List Value).toArray s 0 0 (hp_A B)) (F0 m 4 ls []) := by
    intro nlp5
    induction nlp5 with
    | zero => intro v3 v4 H locs ls iv7 iv8 iv9 hm6 hJ hl; exact absurd hm6 (by omega)
    | succ nlp5 ihlp5 =>
      intro v3 v4 H locs ls iv7 iv8 iv9 hm6 hJ hl
      refine lv_iload_n hx hb dX7_check_4 rfl (lv_at hl 2 rfl) ?_
      refine lv_aload_n hx hb dX7_check_5 rfl (lv_at hl 0 rfl) ?_
      refine he_geti (C := RX7) (T := TX7) (N := 24) (ci := 7) (kd := 11) hx hb hts iX7_check_X7 hown hK hJ k0 rfl rfl 13 (by decide) (hts (.fieldLink RX7 91 "NeighborBookModel" "known" "I") (List.mem_of_getElem? (i := 1) rfl)) (fun _ h9 => h9) rfl rfl dX7_check_6 (fun x10 ex10 => ?_)
      have ex10 : x10.toInt = g 11 13 ∧ 0 ≤ x10.toInt ∧ x10.toInt ≤ 12 := ex10
      refine hq_icmp_ge (tgt := 74) hx hb dX7_check_9 (by decide) (fun c11 => ?_) (fun c11 => ?_)
      · refine lv_iload_n hx hb dX7_check_74 rfl (lv_at hl 1 rfl) ?_
        refine hq_if_eq (tgt := 82) hx hb dX7_check_75 (by decide) (fun c12 => ?_) (fun c12 => ?_)
        · exfalso; omega
        · refine hq_iconst hx hb dX7_check_78 (by decide) (by decide) (fun z13 ez13 => ?_)
          refine lv_goto (tgt := 83) hx hb dX7_check_79 (by decide) ?_
          exact he_iret hx hb hK hN hW hlocks hJ hr ⟨rfl, by omega⟩ dX7_check_83
      · refine lv_iload_n hx hb dX7_check_12 rfl (lv_at hl 1 rfl) ?_
        refine hq_if_eq (tgt := 34) hx hb dX7_check_13 (by decide) (fun c14 => ?_) (fun c14 => ?_)
        · exfalso; omega
        · refine lv_aload_n hx hb dX7_check_16 rfl (lv_at hl 0 rfl) ?_
          refine he_getr (C := RX7) (T := TX7) (N := 24) (ci := 7) (kd := 11) hx hb hts iX7_check_X7 hown hK hJ k0 rfl rfl 7 (by decide) (hts (.fieldLink RX7 30 "NeighborBookModel" "up" "[Z") (List.mem_of_getElem? (i := 2) rfl)) (fun _ h9 => h9) rfl dX7_check_17 (fun b15 kb15 => ?_)
          refine lv_aload_n hx hb dX7_check_20 rfl (lv_at hl 0 rfl) ?_
          refine he_getr (C := RX7) (T := TX7) (N := 24) (ci := 7) (kd := 11) hx hb hts iX7_check_X7 hown hK hJ k0 rfl rfl 14 (by decide) (hts (.fieldLink RX7 49 "NeighborBookModel" "ports" "[I") (List.mem_of_getElem? (i := 3) rfl)) (fun _ h9 => h9) rfl dX7_check_21 (fun b16 kb16 => ?_)
          refine lv_iload_n hx hb dX7_check_24 rfl (lv_at hl 2 rfl) ?_
          refine he_iald (kd := 26) (n := 13) hx hb hK hJ kb16 rfl (by omega) (by omega) (sp := (9, 3)) rfl rfl dX7_check_25 (fun x17 ex17 => ?_)
          have ex17 : x17.toInt = g 26 v4.toInt.toNat ∧ 0 ≤ x17.toInt ∧ x17.toInt ≤ 3 := ex17
          refine he_zald (kd := 20) (n := 4) hx hb hK hJ kb15 rfl (by omega) (by omega) (sp := (9, 1)) rfl rfl dX7_check_26 (fun x18 ex18 => ?_)
          have ex18 : x18.toInt = g 20 x17.toInt.toNat ∧ 0 ≤ x18.toInt ∧ x18.toInt ≤ 1 := ex18
          have hvl : v4.toInt.toNat < (hm_tab g).length := by rw [hm_tab_len]; omega
          have hrow := hI.1 _ (List.getElem_mem hvl)
          rw [hm_tab_get] at hrow
          have hup : g 20 (g 26 v4.toInt.toNat).toNat = 1 := hrow.2.2.1
          have hup2 : g 20 x17.toInt.toNat = 1 := by rw [(ex17).1]; exact hup
          refine hq_if_eq (tgt := 34) hx hb dX7_check_27 (by decide) (fun c19 => ?_) (fun c19 => ?_)
          · exfalso; omega
          · refine hq_iconst hx hb dX7_check_30 (by decide) (by decide) (fun z20 ez20 => ?_)
            refine lv_goto (tgt := 35) hx hb dX7_check_31 (by decide) ?_
            refine lv_istore_n (lv' := [(1, .int z20), (0, .ref h0), (2, .int v4)]) hx hb dX7_check_35 rfl hl (by decide) rfl (fun ls hl => ?_)
            refine hq_iconst hx hb dX7_check_36 (by decide) (by decide) (fun z21 ez21 => ?_)
            refine lv_istore_n (lv' := [(3, .int z21), (1, .int z20), (0, .ref h0), (2, .int v4)]) hx hb dX7_check_37 rfl hl (by decide) rfl (fun ls hl => ?_)
            have lp24 : ∀ (nlp24 : Nat) (v22 : Int32) (v23 : Int32) (H : Heap) (locs : List Loc) (ls : Array Slot), (v22.toInt = 1) → (0 ≤ v23.toInt) → (v23.toInt ≤ 12) → (13 - v23.toInt < (nlp24 : Int)) → he_J dC dI dA κ B g s.heap H locs → lv_has ls 4 [(0, .ref h0), (1, .int v22), (2, .int v4), (3, .int v23)] → W p l e (headSpec wsX7_check ({ frames := 1, cells := 0, slots := 0, locals := 25 } : Room)).room s m ([Value.ref h0] : List Value).toArray below meth c H locs 0 0 (MQ below (he_Qi dC dI dA κ B (fun r u => g = u ∧ r.toInt = 1)) ([Value.ref h0] : List Value).toArray s 0 0 (hp_A B)) (F0 m 38 ls []) := by
              intro nlp24
              induction nlp24 with
              | zero => intro v22 v23 H locs ls iv26 iv27 iv28 hm25 hJ hl; exact absurd hm25 (by omega)
              | succ nlp24 ihlp24 =>
                intro v22 v23 H locs ls iv26 iv27 iv28 hm25 hJ hl
                refine lv_iload_n hx hb dX7_check_38 rfl (lv_at hl 3 rfl) ?_
                refine lv_iload_n hx hb dX7_check_39 rfl (lv_at hl 2 rfl) ?_
                refine hq_icmp_ge (tgt := 68) hx hb dX7_check_40 (by decide) (fun c29 => ?_) (fun c29 => ?_)
                · refine hq_iinc (k := 2) (lv' := fun (z9 : Int32) => [(2, .int z9), (0, .ref h0), (1, .int v22), (3, .int v23)]) hx hb dX7_check_68 hl rfl (by decide) (by decide) (by omega) (by omega) (by decide) (fun _ => rfl) (fun x30 ls ex30 hl => ?_)
                  have hl : lv_has ls 4 [(2, .int x30), (0, .ref h0), (1, .int v22), (3, .int v23)] := hl
                  refine lv_goto (tgt := 4) hx hb dX7_check_71 (by decide) ?_
                  exact ihlp5 v22 x30 _ _ ls (by omega) (by omega) (by omega) (by omega) hJ (lv_sub hl [1, 2, 0] rfl)
                · refine lv_iload_n hx hb dX7_check_43 rfl (lv_at hl 1 rfl) ?_
                  refine hq_if_eq (tgt := 60) hx hb dX7_check_44 (by decide) (fun c31 => ?_) (fun c31 => ?_)
                  · exfalso; omega
                  · refine lv_aload_n hx hb dX7_check_47 rfl (lv_at hl 0 rfl) ?_
                    refine lv_iload_n hx hb dX7_check_48 rfl (lv_at hl 2 rfl) ?_
                    refine lv_iload_n hx hb dX7_check_49 rfl (lv_at hl 3 rfl) ?_
                    refine he_calli (va_runV (As := [.int v4, .int v23]) (rest := []) ⟨hx, hb, hml, hown, hts⟩ (e_X7_isAlike l dC dI dA κ B g h0 k0 v4 v23 (by omega) (by omega) (by omega) (by omega)) (cwV 2 hts gX7_check_X7_isAlike rfl rfl rfl (by decide +kernel) ⟨Nat.le_of_ble_eq_true rfl, Nat.le_of_ble_eq_true rfl⟩) (he_preV (q := (RX7, TX7, 24)) [.int v4, .int v23] hK hN hW hJ k0 rfl rfl) rfl rfl hl.1 rfl (lv_room (Nat.le_of_ble_eq_true rfl)) dX7_check_50 ⟨Nat.zero_le _, Nat.zero_le _⟩) hJ (fun x33 g32 H locs hp hJ => ?_)
                    obtain ⟨rfl, f34⟩ := hp
                    have hl1 : v23.toInt.toNat < (hm_tab g).length := by rw [hm_tab_len]; omega
                    have hl2 : v4.toInt.toNat < (hm_tab g).length := by rw [hm_tab_len]; omega
                    have hno9 : ¬ hm_al g v4.toInt.toNat v23.toInt.toNat := fun h9 => List.pairwise_iff_getElem.mp hI.2 _ _ hl1 hl2 (by omega) (by rw [hm_tab_get, hm_tab_get]; exact ⟨h9.1.symm, h9.2.sy⟩)
                    refine hq_if_ne (tgt := 60) hx hb dX7_check_53 (by decide) (fun c35 => ?_) (fun c35 => ?_)
                    · exact absurd (f34.2.mp (by omega)) hno9
                    · refine hq_iconst hx hb dX7_check_56 (by decide) (by decide) (fun z36 ez36 => ?_)
                      refine lv_goto (tgt := 61) hx hb dX7_check_57 (by decide) ?_
                      refine lv_istore_n (lv' := [(1, .int z36), (0, .ref h0), (2, .int v4), (3, .int v23)]) hx hb dX7_check_61 rfl hl (by decide) rfl (fun ls hl => ?_)
                      refine hq_iinc (k := 3) (lv' := fun (z9 : Int32) => [(3, .int z9), (1, .int z36), (0, .ref h0), (2, .int v4)]) hx hb dX7_check_62 hl rfl (by decide) (by decide) (by omega) (by omega) (by decide) (fun _ => rfl) (fun x37 ls ex37 hl => ?_)
                      have hl : lv_has ls 4 [(3, .int x37), (1, .int z36), (0, .ref h0), (2, .int v4)] := hl
                      refine lv_goto (tgt := 38) hx hb dX7_check_65 (by decide) ?_
                      exact ihlp24 z36 x37 _ _ ls (by omega) (by omega) (by omega) (by omega) hJ (lv_sub hl [2, 1, 3, 0] rfl)
            exact lp24 ((13 - z21.toInt).toNat + 1) z20 z21 _ _ ls (by omega) (by omega) (by omega) (by omega) hJ (lv_sub hl [2, 1, 3, 0] rfl)
  exact lp5 ((13 - z2.toInt).toNat + 1) z1 z2 _ _ ls (by omega) (by omega) (by omega) (by omega) hJ (lv_sub hl [2, 1, 0] rfl)
