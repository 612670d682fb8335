theorem iX7_isAlike_X7 : ∀ w ∈ wsX70, w ∈ wsX7_isAlike := fun _ h => List.mem_cons_of_mem _ (List.mem_append_right _ h)
set_option maxRecDepth 100000 in
set_option maxHeartbeats 4000000 in
theorem e_X7_isAlike (l : Launch) (dC : Nat → ClassId) (dI : Nat → Nat → Nat) (dA : Nat → ClassId) (κ : Nat → Nat) (B : Nat) (g : Nat → Nat → Int) (h0 : Nat) (k0 : κ h0 = 11) (ia : Int32) (ib : Int32) (hf0 : 0 ≤ ia.toInt) (hf1 : ia.toInt ≤ 12) (ht0 : 0 ≤ ib.toInt) (ht1 : ib.toInt ≤ 12) : Met l yX7_isAlike wsX7_isAlike ({ frames := 0, cells := 0, slots := 0, locals := 0 } : Room) (he_Pre dC dI dA κ B g [Value.ref h0, Value.int ia, Value.int ib]) (he_Qi dC dI dA κ B (fun r u => g = u ∧ (r.toInt = 0 ∨ r.toInt = 1) ∧ (r.toInt = 1 ↔ hm_al g ia.toInt.toNat ib.toInt.toNat))) 0 0 (hp_A B) := by
  refine Met.ofW (cc := cX7_isAlike) (maxL := 6) (ret := (some .boolean)) (by decide) rfl ?_
  intro p e s m args below meth c s₁ Bd hml hv
  obtain ⟨rfl, hK, hN, hW, hF⟩ := hv
  have hx := Bd.exec
  have hb := Bd.bytes
  have hr := Bd.returns
  have hts := atoms_spec (ws := wsX7_isAlike) Bd.pre
  have hown : s.vm.findClass RX7 = some m.cls := findClass_of_methodNamed Bd.named
  have hlocks := Bd.notSynchronized
  have hJ : he_J dC dI dA κ B g s.heap s.heap [] := ⟨hF, va_S.rf⟩
  have hl := lv_entry ([Value.ref h0, Value.int ia, Value.int ib]) (n := 6) (Nat.le_of_ble_eq_true rfl)
  rw [lg_entry_eq]
  generalize (lg_sl ([Value.ref h0, Value.int ia, Value.int ib]) ++ List.replicate (6 - (lg_sl ([Value.ref h0, Value.int ia, Value.int ib])).length) Slot.unset).toArray = ls at hl ⊢
  have hl : lv_has ls 6 [(0, .ref h0), (1, .int ia), (2, .int ib)] := hl
  have ct2 : ∀ (v1 : Int32) (H : Heap) (locs : List Loc) (ls : Array Slot), (v1.toInt = 0 ∨ v1.toInt = 1) → (hm_if v1.toInt (g 26 ia.toInt.toNat = g 26 ib.toInt.toNat)) → he_J dC dI dA κ B g s.heap H locs → lv_has ls 6 [(0, .ref h0), (1, .int ia), (2, .int ib), (3, .int v1)] → W p l e (headSpec wsX7_isAlike ({ frames := 0, cells := 0, slots := 0, locals := 0 } : Room)).room s m ([Value.ref h0, Value.int ia, Value.int ib] : List Value).toArray below meth c H locs 0 0 (MQ below (he_Qi dC dI dA κ B (fun r u => g = u ∧ (r.toInt = 0 ∨ r.toInt = 1) ∧ (r.toInt = 1 ↔ hm_al g ia.toInt.toNat ib.toInt.toNat))) ([Value.ref h0, Value.int ia, Value.int ib] : List Value).toArray s 0 0 (hp_A B)) (F0 m 21 ls []) := by
    intro v1 H locs ls iv3 iv4 hJ hl
    refine hq_iconst hx hb dX7_isAlike_21 (by decide) (by decide) (fun z5 ez5 => ?_)
    refine lv_istore (lv' := [(4, .int z5), (0, .ref h0), (1, .int ia), (2, .int ib), (3, .int v1)]) hx hb dX7_isAlike_22 hl (by decide) rfl (fun ls hl => ?_)
    have lp8 : ∀ (nlp8 : Nat) (v6 : Int32) (v7 : Int32) (H : Heap) (locs : List Loc) (ls : Array Slot), (v6.toInt = 0 ∨ v6.toInt = 1) → (1 ≤ v7.toInt) → (v7.toInt ≤ 3) → (hm_if v6.toInt (hm_sp g ia.toInt.toNat ib.toInt.toNat v7.toInt.toNat)) → (4 - v7.toInt < (nlp8 : Int)) → he_J dC dI dA κ B g s.heap H locs → lv_has ls 6 [(0, .ref h0), (1, .int ia), (2, .int ib), (3, .int v6), (4, .int v7)] → W p l e (headSpec wsX7_isAlike ({ frames := 0, cells := 0, slots := 0, locals := 0 } : Room)).room s m ([Value.ref h0, Value.int ia, Value.int ib] : List Value).toArray below meth c H locs 0 0 (MQ below (he_Qi dC dI dA κ B (fun r u => g = u ∧ (r.toInt = 0 ∨ r.toInt = 1) ∧ (r.toInt = 1 ↔ hm_al g ia.toInt.toNat ib.toInt.toNat))) ([Value.ref h0, Value.int ia, Value.int ib] : List Value).toArray s 0 0 (hp_A B)) (F0 m 24 ls []) := by
      intro nlp8
      induction nlp8 with
      | zero => intro v6 v7 H locs ls iv10 iv11 iv12 iv13 hm9 hJ hl; exact absurd hm9 (by omega)
      | succ nlp8 ihlp8 =>
        intro v6 v7 H locs ls iv10 iv11 iv12 iv13 hm9 hJ hl
        refine lv_iload hx hb dX7_isAlike_24 (lv_at hl 4 rfl) ?_
        refine hq_iconst hx hb dX7_isAlike_26 (by decide) (by decide) (fun z14 ez14 => ?_)
        refine hq_icmp_ge (tgt := 148) hx hb dX7_isAlike_27 (by decide) (fun c15 => ?_) (fun c15 => ?_)
        · refine lv_iload_n hx hb dX7_isAlike_148 rfl (lv_at hl 3 rfl) ?_
          exact he_zret hx hb hK hN hW hlocks hJ hr (by omega) ⟨rfl, by omega, by
            rw [hm_al_iff]
            have h9 := iv13
            rw [show v7.toInt.toNat = 3 by omega] at h9
            exact ⟨h9.mp, h9.mpr⟩⟩ dX7_isAlike_149
        · have ct17 : ∀ (v16 : Int32) (H : Heap) (locs : List Loc) (ls : Array Slot), (v16.toInt = 0 ∨ v16.toInt = 1) → (hm_if v16.toInt (hm_sp g ia.toInt.toNat ib.toInt.toNat v7.toInt.toNat ∧ g 30 (9 * ia.toInt.toNat + v7.toInt.toNat) = g 30 (9 * ib.toInt.toNat + v7.toInt.toNat))) → he_J dC dI dA κ B g s.heap H locs → lv_has ls 6 [(0, .ref h0), (1, .int ia), (2, .int ib), (3, .int v16), (4, .int v7)] → W p l e (headSpec wsX7_isAlike ({ frames := 0, cells := 0, slots := 0, locals := 0 } : Room)).room s m ([Value.ref h0, Value.int ia, Value.int ib] : List Value).toArray below meth c H locs 0 0 (MQ below (he_Qi dC dI dA κ B (fun r u => g = u ∧ (r.toInt = 0 ∨ r.toInt = 1) ∧ (r.toInt = 1 ↔ hm_al g ia.toInt.toNat ib.toInt.toNat))) ([Value.ref h0, Value.int ia, Value.int ib] : List Value).toArray s 0 0 (hp_A B)) (F0 m 67 ls []) := by
            intro v16 H locs ls iv18 iv19 hJ hl
            refine hq_iconst hx hb dX7_isAlike_67 (by decide) (by decide) (fun z20 ez20 => ?_)
            refine lv_istore (lv' := [(5, .int z20), (0, .ref h0), (1, .int ia), (2, .int ib), (3, .int v16), (4, .int v7)]) hx hb dX7_isAlike_68 hl (by decide) rfl (fun ls hl => ?_)
            have lp23 : ∀ (nlp23 : Nat) (v21 : Int32) (v22 : Int32) (H : Heap) (locs : List Loc) (ls : Array Slot), (v21.toInt = 0 ∨ v21.toInt = 1) → (0 ≤ v22.toInt) → (v22.toInt ≤ 60) → (v22.toInt = 0 ∨ v22.toInt ≤ g 30 (9 * ia.toInt.toNat + v7.toInt.toNat)) → (hm_if v21.toInt (hm_sp g ia.toInt.toNat ib.toInt.toNat v7.toInt.toNat ∧ g 30 (9 * ia.toInt.toNat + v7.toInt.toNat) = g 30 (9 * ib.toInt.toNat + v7.toInt.toNat) ∧ ∀ k : Nat, (k : Int) < v22.toInt → g 29 ((9 * ia.toInt.toNat + v7.toInt.toNat) * 60 + k) = g 29 ((9 * ib.toInt.toNat + v7.toInt.toNat) * 60 + k))) → (61 - v22.toInt < (nlp23 : Int)) → he_J dC dI dA κ B g s.heap H locs → lv_has ls 6 [(0, .ref h0), (1, .int ia), (2, .int ib), (3, .int v21), (4, .int v7), (5, .int v22)] → W p l e (headSpec wsX7_isAlike ({ frames := 0, cells := 0, slots := 0, locals := 0 } : Room)).room s m ([Value.ref h0, Value.int ia, Value.int ib] : List Value).toArray below meth c H locs 0 0 (MQ below (he_Qi dC dI dA κ B (fun r u => g = u ∧ (r.toInt = 0 ∨ r.toInt = 1) ∧ (r.toInt = 1 ↔ hm_al g ia.toInt.toNat ib.toInt.toNat))) ([Value.ref h0, Value.int ia, Value.int ib] : List Value).toArray s 0 0 (hp_A B)) (F0 m 70 ls []) := by
              intro nlp23
              induction nlp23 with
              | zero => intro v21 v22 H locs ls iv25 iv26 iv27 iv28 iv29 hm24 hJ hl; exact absurd hm24 (by omega)
              | succ nlp23 ihlp23 =>
                intro v21 v22 H locs ls iv25 iv26 iv27 iv28 iv29 hm24 hJ hl
                refine lv_iload_n hx hb dX7_isAlike_70 rfl (lv_at hl 3 rfl) ?_
                refine hq_if_eq (tgt := 142) hx hb dX7_isAlike_71 (by decide) (fun c30 => ?_) (fun c30 => ?_)
                · have hs9 : hm_if v21.toInt (hm_sp g ia.toInt.toNat ib.toInt.toNat (v7.toInt.toNat + 1)) := ⟨fun h9 => absurd h9 (by omega), fun h9 => by
                    have h8 := (hm_sp_succ (by omega)).mp h9
                    exact iv29.mpr ⟨h8.1, h8.2.1, fun k hk => h8.2.2 k (by omega)⟩⟩
                  refine hq_iinc (k := 4) (lv' := fun (z9 : Int32) => [(4, .int z9), (0, .ref h0), (1, .int ia), (2, .int ib), (3, .int v21), (5, .int v22)]) hx hb dX7_isAlike_142 hl rfl (by decide) (by decide) (by omega) (by omega) (by decide) (fun _ => rfl) (fun x31 ls ex31 hl => ?_)
                  have hl : lv_has ls 6 [(4, .int x31), (0, .ref h0), (1, .int ia), (2, .int ib), (3, .int v21), (5, .int v22)] := hl
                  refine lv_goto (tgt := 24) hx hb dX7_isAlike_145 (by decide) ?_
                  exact ihlp8 v21 x31 _ _ ls (by omega) (by omega) (by omega) (by rw [show x31.toInt.toNat = v7.toInt.toNat + 1 by omega]; exact hs9) (by omega) hJ (lv_sub hl [1, 2, 3, 4, 0] rfl)
                · refine lv_iload hx hb dX7_isAlike_74 (lv_at hl 5 rfl) ?_
                  refine lv_aload_n hx hb dX7_isAlike_76 rfl (lv_at hl 0 rfl) ?_
                  refine he_getr (C := RX7) (T := TX7) (N := 24) (ci := 7) (kd := 11) hx hb hts iX7_isAlike_X7 hown hK hJ k0 rfl rfl 18 (by decide) (hts (.fieldLink RX7 61 "NeighborBookModel" "sizes" "[I") (List.mem_of_getElem? (i := 2) rfl)) (fun _ h9 => h9) rfl dX7_isAlike_77 (fun b32 kb32 => ?_)
                  refine hq_bipush hx hb dX7_isAlike_80 (by decide) (fun z33 ez33 => ?_)
                  refine lv_iload_n hx hb dX7_isAlike_82 rfl (lv_at hl 1 rfl) ?_
                  refine hq_imul (w := 9 * ia.toInt) hx hb dX7_isAlike_83 (by rw [ez33]) (by omega) (by omega) (fun x34 ex34 => ?_)
                  refine lv_iload hx hb dX7_isAlike_84 (lv_at hl 4 rfl) ?_
                  refine hq_iadd hx hb dX7_isAlike_86 (by omega) (by omega) (fun x35 ex35 => ?_)
                  refine he_iald (kd := 30) (n := 117) hx hb hK hJ kb32 rfl (by omega) (by omega) (sp := (10, 60)) rfl rfl dX7_isAlike_87 (fun x36 ex36 => ?_)
                  have ex36 : x36.toInt = g 30 x35.toInt.toNat ∧ -1 ≤ x36.toInt ∧ x36.toInt ≤ 60 := ex36
                  refine hq_icmp_ge (tgt := 142) hx hb dX7_isAlike_88 (by decide) (fun c37 => ?_) (fun c37 => ?_)
                  · have hix : 9 * ia.toInt.toNat + v7.toInt.toNat = x35.toInt.toNat := by omega
                    have hb1 := iv29.mp (by omega)
                    have hs9 : hm_if v21.toInt (hm_sp g ia.toInt.toNat ib.toInt.toNat (v7.toInt.toNat + 1)) := ⟨fun h9 => (hm_sp_succ (by omega)).mpr ⟨hb1.1, hb1.2.1, fun k hk => hb1.2.2 k (by rw [hix] at hk; omega)⟩, fun h9 => by omega⟩
                    refine hq_iinc (k := 4) (lv' := fun (z9 : Int32) => [(4, .int z9), (0, .ref h0), (1, .int ia), (2, .int ib), (3, .int v21), (5, .int v22)]) hx hb dX7_isAlike_142 hl rfl (by decide) (by decide) (by omega) (by omega) (by decide) (fun _ => rfl) (fun x38 ls ex38 hl => ?_)
                    have hl : lv_has ls 6 [(4, .int x38), (0, .ref h0), (1, .int ia), (2, .int ib), (3, .int v21), (5, .int v22)] := hl
                    refine lv_goto (tgt := 24) hx hb dX7_isAlike_145 (by decide) ?_
                    exact ihlp8 v21 x38 _ _ ls (by omega) (by omega) (by omega) (by rw [show x38.toInt.toNat = v7.toInt.toNat + 1 by omega]; exact hs9) (by omega) hJ (lv_sub hl [1, 2, 3, 4, 0] rfl)
                  · have hb1 := iv29.mp (by omega)
                    have hix : 9 * ia.toInt.toNat + v7.toInt.toNat = x35.toInt.toNat := by omega
                    have h5s : v22.toInt + 1 ≤ g 30 (9 * ia.toInt.toNat + v7.toInt.toNat) := by rw [hix]; omega
                    have ct40 : ∀ (v39 : Int32) (H : Heap) (locs : List Loc) (ls : Array Slot), (v39.toInt = 0 ∨ v39.toInt = 1) → (hm_if v39.toInt (g 29 ((9 * ia.toInt.toNat + v7.toInt.toNat) * 60 + v22.toInt.toNat) = g 29 ((9 * ib.toInt.toNat + v7.toInt.toNat) * 60 + v22.toInt.toNat))) → he_J dC dI dA κ B g s.heap H locs → lv_has ls 6 [(0, .ref h0), (1, .int ia), (2, .int ib), (3, .int v39), (4, .int v7), (5, .int v22)] → W p l e (headSpec wsX7_isAlike ({ frames := 0, cells := 0, slots := 0, locals := 0 } : Room)).room s m ([Value.ref h0, Value.int ia, Value.int ib] : List Value).toArray below meth c H locs 0 0 (MQ below (he_Qi dC dI dA κ B (fun r u => g = u ∧ (r.toInt = 0 ∨ r.toInt = 1) ∧ (r.toInt = 1 ↔ hm_al g ia.toInt.toNat ib.toInt.toNat))) ([Value.ref h0, Value.int ia, Value.int ib] : List Value).toArray s 0 0 (hp_A B)) (F0 m 136 ls []) := by
                      intro v39 H locs ls iv41 iv42 hJ hl
                      refine hq_iinc (k := 5) (lv' := fun (z9 : Int32) => [(5, .int z9), (0, .ref h0), (1, .int ia), (2, .int ib), (3, .int v39), (4, .int v7)]) hx hb dX7_isAlike_136 hl rfl (by decide) (by decide) (by omega) (by omega) (by decide) (fun _ => rfl) (fun x43 ls ex43 hl => ?_)
                      have hl : lv_has ls 6 [(5, .int x43), (0, .ref h0), (1, .int ia), (2, .int ib), (3, .int v39), (4, .int v7)] := hl
                      have s2 : hm_if v39.toInt (hm_sp g ia.toInt.toNat ib.toInt.toNat v7.toInt.toNat ∧ g 30 (9 * ia.toInt.toNat + v7.toInt.toNat) = g 30 (9 * ib.toInt.toNat + v7.toInt.toNat) ∧ ∀ k : Nat, (k : Int) < x43.toInt → g 29 ((9 * ia.toInt.toNat + v7.toInt.toNat) * 60 + k) = g 29 ((9 * ib.toInt.toNat + v7.toInt.toNat) * 60 + k)) := ⟨fun h9 => ⟨hb1.1, hb1.2.1, fun k hk => by
                        by_cases h8 : k = v22.toInt.toNat
                        · rw [h8]; exact iv42.mp h9
                        · exact hb1.2.2 k (by omega)⟩, fun h9 => iv42.mpr (h9.2.2 v22.toInt.toNat (by omega))⟩
                      refine lv_goto (tgt := 70) hx hb dX7_isAlike_139 (by decide) ?_
                      exact ihlp23 v39 x43 _ _ ls (by omega) (by omega) (by omega) (Or.inr (by omega)) s2 (by omega) hJ (lv_sub hl [1, 2, 3, 4, 5, 0] rfl)
                    refine lv_aload_n hx hb dX7_isAlike_91 rfl (lv_at hl 0 rfl) ?_
                    refine he_getr (C := RX7) (T := TX7) (N := 24) (ci := 7) (kd := 11) hx hb hts iX7_isAlike_X7 hown hK hJ k0 rfl rfl 17 (by decide) (hts (.fieldLink RX7 58 "NeighborBookModel" "bytes" "[B") (List.mem_of_getElem? (i := 3) rfl)) (fun _ h9 => h9) rfl dX7_isAlike_92 (fun b44 kb44 => ?_)
                    refine hq_bipush hx hb dX7_isAlike_95 (by decide) (fun z45 ez45 => ?_)
                    refine lv_iload_n hx hb dX7_isAlike_97 rfl (lv_at hl 1 rfl) ?_
                    refine hq_imul (w := 9 * ia.toInt) hx hb dX7_isAlike_98 (by rw [ez45]) (by omega) (by omega) (fun x46 ex46 => ?_)
                    refine lv_iload hx hb dX7_isAlike_99 (lv_at hl 4 rfl) ?_
                    refine hq_iadd hx hb dX7_isAlike_101 (by omega) (by omega) (fun x47 ex47 => ?_)
                    refine hq_bipush hx hb dX7_isAlike_102 (by decide) (fun z48 ez48 => ?_)
                    refine hq_imul (w := x47.toInt * 60) hx hb dX7_isAlike_104 (by rw [ez48]) (by omega) (by omega) (fun x49 ex49 => ?_)
                    refine lv_iload hx hb dX7_isAlike_105 (lv_at hl 5 rfl) ?_
                    refine hq_iadd hx hb dX7_isAlike_107 (by omega) (by omega) (fun x50 ex50 => ?_)
                    refine he_bald (kd := 29) (n := 7020) hx hb hK hJ kb44 rfl (by omega) (by omega) (sp := (11, 0)) rfl rfl dX7_isAlike_108 (fun x51 ex51 => ?_)
                    have ex51 : x51.toInt = g 29 x50.toInt.toNat ∧ -128 ≤ x51.toInt ∧ x51.toInt ≤ 127 := ex51
                    refine lv_aload_n hx hb dX7_isAlike_109 rfl (lv_at hl 0 rfl) ?_
                    refine he_getr (C := RX7) (T := TX7) (N := 24) (ci := 7) (kd := 11) hx hb hts iX7_isAlike_X7 hown hK hJ k0 rfl rfl 17 (by decide) (hts (.fieldLink RX7 58 "NeighborBookModel" "bytes" "[B") (List.mem_of_getElem? (i := 3) rfl)) (fun _ h9 => h9) rfl dX7_isAlike_110 (fun b52 kb52 => ?_)
                    refine hq_bipush hx hb dX7_isAlike_113 (by decide) (fun z53 ez53 => ?_)
                    refine lv_iload_n hx hb dX7_isAlike_115 rfl (lv_at hl 2 rfl) ?_
                    refine hq_imul (w := 9 * ib.toInt) hx hb dX7_isAlike_116 (by rw [ez53]) (by omega) (by omega) (fun x54 ex54 => ?_)
                    refine lv_iload hx hb dX7_isAlike_117 (lv_at hl 4 rfl) ?_
                    refine hq_iadd hx hb dX7_isAlike_119 (by omega) (by omega) (fun x55 ex55 => ?_)
                    refine hq_bipush hx hb dX7_isAlike_120 (by decide) (fun z56 ez56 => ?_)
                    refine hq_imul (w := x55.toInt * 60) hx hb dX7_isAlike_122 (by rw [ez56]) (by omega) (by omega) (fun x57 ex57 => ?_)
                    refine lv_iload hx hb dX7_isAlike_123 (lv_at hl 5 rfl) ?_
                    refine hq_iadd hx hb dX7_isAlike_125 (by omega) (by omega) (fun x58 ex58 => ?_)
                    refine he_bald (kd := 29) (n := 7020) hx hb hK hJ kb52 rfl (by omega) (by omega) (sp := (11, 0)) rfl rfl dX7_isAlike_126 (fun x59 ex59 => ?_)
                    have ex59 : x59.toInt = g 29 x58.toInt.toNat ∧ -128 ≤ x59.toInt ∧ x59.toInt ≤ 127 := ex59
                    have hja : (9 * ia.toInt.toNat + v7.toInt.toNat) * 60 + v22.toInt.toNat = x50.toInt.toNat := by omega
                    have hjb : (9 * ib.toInt.toNat + v7.toInt.toNat) * 60 + v22.toInt.toNat = x58.toInt.toNat := by omega
                    refine hq_icmp_ne (tgt := 134) hx hb dX7_isAlike_127 (by decide) (fun c60 => ?_) (fun c60 => ?_)
                    · refine hq_iconst hx hb dX7_isAlike_134 (by decide) (by decide) (fun z61 ez61 => ?_)
                      refine lv_istore_n (lv' := [(3, .int z61), (0, .ref h0), (1, .int ia), (2, .int ib), (4, .int v7), (5, .int v22)]) hx hb dX7_isAlike_135 rfl hl (by decide) rfl (fun ls hl => ?_)
                      exact ct40 z61 _ _ ls (by omega) ⟨fun h9 => absurd h9 (by omega), fun h9 => by
                        rw [hja, hjb] at h9
                        omega⟩ hJ (lv_sub hl [1, 2, 3, 0, 4, 5] rfl)
                    · refine hq_iconst hx hb dX7_isAlike_130 (by decide) (by decide) (fun z62 ez62 => ?_)
                      refine lv_goto (tgt := 135) hx hb dX7_isAlike_131 (by decide) ?_
                      refine lv_istore_n (lv' := [(3, .int z62), (0, .ref h0), (1, .int ia), (2, .int ib), (4, .int v7), (5, .int v22)]) hx hb dX7_isAlike_135 rfl hl (by decide) rfl (fun ls hl => ?_)
                      exact ct40 z62 _ _ ls (by omega) ⟨fun _ => by rw [hja, hjb]; omega, fun _ => by omega⟩ hJ (lv_sub hl [1, 2, 3, 0, 4, 5] rfl)
            exact lp23 ((61 - z20.toInt).toNat + 1) v16 z20 _ _ ls (by omega) (by omega) (by omega) (Or.inl (by omega)) ⟨fun h9 => ⟨(iv19.mp h9).1, (iv19.mp h9).2, fun k hk => absurd hk (by omega)⟩, fun h9 => iv19.mpr ⟨h9.1, h9.2.1⟩⟩ (by omega) hJ (lv_sub hl [1, 2, 3, 4, 5, 0] rfl)
          refine lv_iload_n hx hb dX7_isAlike_30 rfl (lv_at hl 3 rfl) ?_
          refine hq_if_eq (tgt := 65) hx hb dX7_isAlike_31 (by decide) (fun c63 => ?_) (fun c63 => ?_)
          · refine hq_iconst hx hb dX7_isAlike_65 (by decide) (by decide) (fun z64 ez64 => ?_)
            refine lv_istore_n (lv' := [(3, .int z64), (0, .ref h0), (1, .int ia), (2, .int ib), (4, .int v7)]) hx hb dX7_isAlike_66 rfl hl (by decide) rfl (fun ls hl => ?_)
            exact ct17 z64 _ _ ls (by omega) ⟨fun h9 => absurd h9 (by omega), fun h9 => by
              have h8 := iv13.mpr h9.1
              omega⟩ hJ (lv_sub hl [1, 2, 3, 0, 4] rfl)
          · refine lv_aload_n hx hb dX7_isAlike_34 rfl (lv_at hl 0 rfl) ?_
            refine he_getr (C := RX7) (T := TX7) (N := 24) (ci := 7) (kd := 11) hx hb hts iX7_isAlike_X7 hown hK hJ k0 rfl rfl 18 (by decide) (hts (.fieldLink RX7 61 "NeighborBookModel" "sizes" "[I") (List.mem_of_getElem? (i := 2) rfl)) (fun _ h9 => h9) rfl dX7_isAlike_35 (fun b65 kb65 => ?_)
            refine hq_bipush hx hb dX7_isAlike_38 (by decide) (fun z66 ez66 => ?_)
            refine lv_iload_n hx hb dX7_isAlike_40 rfl (lv_at hl 1 rfl) ?_
            refine hq_imul (w := 9 * ia.toInt) hx hb dX7_isAlike_41 (by rw [ez66]) (by omega) (by omega) (fun x67 ex67 => ?_)
            refine lv_iload hx hb dX7_isAlike_42 (lv_at hl 4 rfl) ?_
            refine hq_iadd hx hb dX7_isAlike_44 (by omega) (by omega) (fun x68 ex68 => ?_)
            refine he_iald (kd := 30) (n := 117) hx hb hK hJ kb65 rfl (by omega) (by omega) (sp := (10, 60)) rfl rfl dX7_isAlike_45 (fun x69 ex69 => ?_)
            have ex69 : x69.toInt = g 30 x68.toInt.toNat ∧ -1 ≤ x69.toInt ∧ x69.toInt ≤ 60 := ex69
            refine lv_aload_n hx hb dX7_isAlike_46 rfl (lv_at hl 0 rfl) ?_
            refine he_getr (C := RX7) (T := TX7) (N := 24) (ci := 7) (kd := 11) hx hb hts iX7_isAlike_X7 hown hK hJ k0 rfl rfl 18 (by decide) (hts (.fieldLink RX7 61 "NeighborBookModel" "sizes" "[I") (List.mem_of_getElem? (i := 2) rfl)) (fun _ h9 => h9) rfl dX7_isAlike_47 (fun b70 kb70 => ?_)
            refine hq_bipush hx hb dX7_isAlike_50 (by decide) (fun z71 ez71 => ?_)
            refine lv_iload_n hx hb dX7_isAlike_52 rfl (lv_at hl 2 rfl) ?_
            refine hq_imul (w := 9 * ib.toInt) hx hb dX7_isAlike_53 (by rw [ez71]) (by omega) (by omega) (fun x72 ex72 => ?_)
            refine lv_iload hx hb dX7_isAlike_54 (lv_at hl 4 rfl) ?_
            refine hq_iadd hx hb dX7_isAlike_56 (by omega) (by omega) (fun x73 ex73 => ?_)
            refine he_iald (kd := 30) (n := 117) hx hb hK hJ kb70 rfl (by omega) (by omega) (sp := (10, 60)) rfl rfl dX7_isAlike_57 (fun x74 ex74 => ?_)
            have ex74 : x74.toInt = g 30 x73.toInt.toNat ∧ -1 ≤ x74.toInt ∧ x74.toInt ≤ 60 := ex74
            refine hq_icmp_ne (tgt := 65) hx hb dX7_isAlike_58 (by decide) (fun c75 => ?_) (fun c75 => ?_)
            · refine hq_iconst hx hb dX7_isAlike_65 (by decide) (by decide) (fun z76 ez76 => ?_)
              refine lv_istore_n (lv' := [(3, .int z76), (0, .ref h0), (1, .int ia), (2, .int ib), (4, .int v7)]) hx hb dX7_isAlike_66 rfl hl (by decide) rfl (fun ls hl => ?_)
              have hixa : 9 * ia.toInt.toNat + v7.toInt.toNat = x68.toInt.toNat := by omega
              have hixb : 9 * ib.toInt.toNat + v7.toInt.toNat = x73.toInt.toNat := by omega
              exact ct17 z76 _ _ ls (by omega) ⟨fun h9 => absurd h9 (by omega), fun h9 => by
                have h8 := h9.2
                rw [hixa, hixb] at h8
                omega⟩ hJ (lv_sub hl [1, 2, 3, 0, 4] rfl)
            · refine hq_iconst hx hb dX7_isAlike_61 (by decide) (by decide) (fun z77 ez77 => ?_)
              refine lv_goto (tgt := 66) hx hb dX7_isAlike_62 (by decide) ?_
              refine lv_istore_n (lv' := [(3, .int z77), (0, .ref h0), (1, .int ia), (2, .int ib), (4, .int v7)]) hx hb dX7_isAlike_66 rfl hl (by decide) rfl (fun ls hl => ?_)
              have hixa : 9 * ia.toInt.toNat + v7.toInt.toNat = x68.toInt.toNat := by omega
              have hixb : 9 * ib.toInt.toNat + v7.toInt.toNat = x73.toInt.toNat := by omega
              exact ct17 z77 _ _ ls (by omega) ⟨fun _ => ⟨iv13.mp (by omega), by rw [hixa, hixb]; omega⟩, fun _ => by omega⟩ hJ (lv_sub hl [1, 2, 3, 0, 4] rfl)
    exact lp8 ((4 - z5.toInt).toNat + 1) v1 z5 _ _ ls (by omega) (by omega) (by omega) ⟨fun h9 => ⟨iv4.mp h9, fun t h1 h2 => absurd h2 (by omega)⟩, fun h9 => iv4.mpr h9.1⟩ (by omega) hJ (lv_sub hl [1, 2, 3, 4, 0] rfl)
  refine lv_aload_n hx hb dX7_isAlike_0 rfl (lv_at hl 0 rfl) ?_
  refine he_getr (C := RX7) (T := TX7) (N := 24) (ci := 7) (kd := 11) hx hb hts iX7_isAlike_X7 hown hK hJ k0 rfl rfl 14 (by decide) (hts (.fieldLink RX7 49 "NeighborBookModel" "ports" "[I") (List.mem_of_getElem? (i := 1) rfl)) (fun _ h9 => h9) rfl dX7_isAlike_1 (fun b78 kb78 => ?_)
  refine lv_iload_n hx hb dX7_isAlike_4 rfl (lv_at hl 1 rfl) ?_
  refine he_iald (kd := 26) (n := 13) hx hb hK hJ kb78 rfl (by omega) (by omega) (sp := (9, 3)) rfl rfl dX7_isAlike_5 (fun x79 ex79 => ?_)
  have ex79 : x79.toInt = g 26 ia.toInt.toNat ∧ 0 ≤ x79.toInt ∧ x79.toInt ≤ 3 := ex79
  refine lv_aload_n hx hb dX7_isAlike_6 rfl (lv_at hl 0 rfl) ?_
  refine he_getr (C := RX7) (T := TX7) (N := 24) (ci := 7) (kd := 11) hx hb hts iX7_isAlike_X7 hown hK hJ k0 rfl rfl 14 (by decide) (hts (.fieldLink RX7 49 "NeighborBookModel" "ports" "[I") (List.mem_of_getElem? (i := 1) rfl)) (fun _ h9 => h9) rfl dX7_isAlike_7 (fun b80 kb80 => ?_)
  refine lv_iload_n hx hb dX7_isAlike_10 rfl (lv_at hl 2 rfl) ?_
  refine he_iald (kd := 26) (n := 13) hx hb hK hJ kb80 rfl (by omega) (by omega) (sp := (9, 3)) rfl rfl dX7_isAlike_11 (fun x81 ex81 => ?_)
  have ex81 : x81.toInt = g 26 ib.toInt.toNat ∧ 0 ≤ x81.toInt ∧ x81.toInt ≤ 3 := ex81
  refine hq_icmp_ne (tgt := 19) hx hb dX7_isAlike_12 (by decide) (fun c82 => ?_) (fun c82 => ?_)
  · refine hq_iconst hx hb dX7_isAlike_19 (by decide) (by decide) (fun z83 ez83 => ?_)
    refine lv_istore_n (lv' := [(3, .int z83), (0, .ref h0), (1, .int ia), (2, .int ib)]) hx hb dX7_isAlike_20 rfl hl (by decide) rfl (fun ls hl => ?_)
    exact ct2 z83 _ _ ls (by omega) ⟨fun h9 => by omega, fun h9 => by omega⟩ hJ (lv_sub hl [1, 2, 3, 0] rfl)
  · refine hq_iconst hx hb dX7_isAlike_15 (by decide) (by decide) (fun z84 ez84 => ?_)
    refine lv_goto (tgt := 20) hx hb dX7_isAlike_16 (by decide) ?_
    refine lv_istore_n (lv' := [(3, .int z84), (0, .ref h0), (1, .int ia), (2, .int ib)]) hx hb dX7_isAlike_20 rfl hl (by decide) rfl (fun ls hl => ?_)
    exact ct2 z84 _ _ ls (by omega) ⟨fun h9 => by omega, fun h9 => by omega⟩ hJ (lv_sub hl [1, 2, 3, 0] rfl)
