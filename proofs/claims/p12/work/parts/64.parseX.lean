set_option maxRecDepth 100000 in
set_option maxHeartbeats 4000000 in
theorem e_X7_parseX (l : Launch) (dC : Nat → ClassId) (dI : Nat → Nat → Nat) (dA : Nat → ClassId) (κ : Nat → Nat) (B : Nat) (g : Nat → Nat → Int) (h0 : Nat) (k0 : κ h0 = 11) (hl12 : 0 ≤ g 27 12 ∧ g 27 12 ≤ 65535) : Met l yX7_parse wsX7_parse ({ frames := 1, cells := 0, slots := 0, locals := 20 } : Room) (he_Pre dC dI dA κ B g [Value.ref h0]) (he_Qi dC dI dA κ B (fun r u => hg_Q (fun a b => (a = 27 ∧ b = 12) ∨ (a = 30 ∧ 108 ≤ b ∧ b < 117) ∨ (a = 29 ∧ 6480 ≤ b ∧ b < 7020)) g u ∧ (r.toInt = 0 ↔ (hq_P (g 38) (g 11 1) 351 0 0 hc_e (g 27 12)).1 = true) ∧ 0 ≤ r.toInt ∧ hm_con u 12 = (hq_P (g 38) (g 11 1) 351 0 0 hc_e (g 27 12)).2.1 ∧ u 27 12 = (hq_P (g 38) (g 11 1) 351 0 0 hc_e (g 27 12)).2.2 ∧ 0 ≤ u 27 12 ∧ u 27 12 ≤ 65535)) 0 0 (hp_A B) := by
  refine Met.ofW (cc := cX7_parse) (maxL := 7) (ret := (some .int)) (by decide) rfl ?_
  intro p e s m args below meth c s₁ Bd hml hv
  obtain ⟨rfl, hK, hN, hW, hF⟩ := hv
  have hx := Bd.exec
  have hb := Bd.bytes
  have hr := Bd.returns
  have hts := atoms_spec (ws := wsX7_parse) Bd.pre
  have hown : s.vm.findClass RX7 = some m.cls := findClass_of_methodNamed Bd.named
  have hlocks := Bd.notSynchronized
  have hJ : he_J dC dI dA κ B g s.heap s.heap [] := ⟨hF, va_S.rf⟩
  have hl := lv_entry ([Value.ref h0]) (n := 7) (Nat.le_of_ble_eq_true rfl)
  rw [lg_entry_eq]
  generalize (lg_sl ([Value.ref h0]) ++ List.replicate (7 - (lg_sl ([Value.ref h0])).length) Slot.unset).toArray = ls at hl ⊢
  have hl : lv_has ls 7 [(0, .ref h0)] := hl
  refine hq_iconst hx hb dX7_parse_0 (by decide) (by decide) (fun z1 ez1 => ?_)
  refine lv_istore_n (lv' := [(1, .int z1), (0, .ref h0)]) hx hb dX7_parse_1 rfl hl (by decide) rfl (fun ls hl => ?_)
  have lp4 : ∀ (nlp4 : Nat) (v2 : Int32) (g3 : Nat → Nat → Int) (H : Heap) (locs : List Loc) (ls : Array Slot), (hg_Q (fun a b => (a = 27 ∧ b = 12) ∨ (a = 30 ∧ 108 ≤ b ∧ b < 117) ∨ (a = 29 ∧ 6480 ≤ b ∧ b < 7020)) g g3) → (0 ≤ v2.toInt) → (v2.toInt ≤ 9) → (0 ≤ g3 27 12 ∧ g3 27 12 ≤ 65535) → (g3 27 12 = g 27 12 ∧ g3 11 1 = g 11 1) → (∀ t : Nat, (t : Int) < v2.toInt → g3 30 (108 + t) = -1) → (10 - v2.toInt < (nlp4 : Int)) → he_J dC dI dA κ B g3 s.heap H locs → lv_has ls 7 [(0, .ref h0), (1, .int v2)] → W p l e (headSpec wsX7_parse ({ frames := 1, cells := 0, slots := 0, locals := 20 } : Room)).room s m ([Value.ref h0] : List Value).toArray below meth c H locs 0 0 (MQ below (he_Qi dC dI dA κ B (fun r u => hg_Q (fun a b => (a = 27 ∧ b = 12) ∨ (a = 30 ∧ 108 ≤ b ∧ b < 117) ∨ (a = 29 ∧ 6480 ≤ b ∧ b < 7020)) g u ∧ (r.toInt = 0 ↔ (hq_P (g 38) (g 11 1) 351 0 0 hc_e (g 27 12)).1 = true) ∧ 0 ≤ r.toInt ∧ hm_con u 12 = (hq_P (g 38) (g 11 1) 351 0 0 hc_e (g 27 12)).2.1 ∧ u 27 12 = (hq_P (g 38) (g 11 1) 351 0 0 hc_e (g 27 12)).2.2 ∧ 0 ≤ u 27 12 ∧ u 27 12 ≤ 65535)) ([Value.ref h0] : List Value).toArray s 0 0 (hp_A B)) (F0 m 2 ls []) := by
    intro nlp4
    induction nlp4 with
    | zero => intro v2 g3 H locs ls iv6 iv7 iv8 iv9 iv10 iv11 hm5 hJ hl; exact absurd hm5 (by omega)
    | succ nlp4 ihlp4 =>
      intro v2 g3 H locs ls iv6 iv7 iv8 iv9 iv10 iv11 hm5 hJ hl
      refine lv_iload_n hx hb dX7_parse_2 rfl (lv_at hl 1 rfl) ?_
      refine hq_bipush hx hb dX7_parse_3 (by decide) (fun z12 ez12 => ?_)
      refine hq_icmp_ge (tgt := 24) hx hb dX7_parse_5 (by decide) (fun c13 => ?_) (fun c13 => ?_)
      · refine hq_iconst hx hb dX7_parse_24 (by decide) (by decide) (fun z14 ez14 => ?_)
        refine lv_istore_n (lv' := [(1, .int z14), (0, .ref h0)]) hx hb dX7_parse_25 rfl hl (by decide) rfl (fun ls hl => ?_)
        refine hq_iconst hx hb dX7_parse_26 (by decide) (by decide) (fun z15 ez15 => ?_)
        refine lv_istore_n (lv' := [(2, .int z15), (1, .int z14), (0, .ref h0)]) hx hb dX7_parse_27 rfl hl (by decide) rfl (fun ls hl => ?_)
        have hce : hm_con g3 12 = hc_e := hc_mk_e (fun t ht => iv11 t (by omega))
        have lp19 : ∀ (nlp19 : Nat) (v16 : Int32) (v17 : Int32) (g18 : Nat → Nat → Int) (H : Heap) (locs : List Loc) (ls : Array Slot), (hg_Q (fun a b => (a = 27 ∧ b = 12) ∨ (a = 30 ∧ 108 ≤ b ∧ b < 117) ∨ (a = 29 ∧ 6480 ≤ b ∧ b < 7020)) g g18) → (0 ≤ v16.toInt) → (v16.toInt ≤ 700) → (0 ≤ g18 27 12 ∧ g18 27 12 ≤ 65535) → (0 ≤ v17.toInt ∧ 2 * v17.toInt ≤ v16.toInt) → (g18 11 1 = g 11 1) → (hq_P (g 38) (g 11 1) (351 - v17.toInt).toNat v16.toInt.toNat v17.toInt.toNat (hm_con g18 12) (g18 27 12) = hq_P (g 38) (g 11 1) 351 0 0 hc_e (g 27 12)) → (701 - v16.toInt < (nlp19 : Int)) → he_J dC dI dA κ B g18 s.heap H locs → lv_has ls 7 [(0, .ref h0), (1, .int v16), (2, .int v17)] → W p l e (headSpec wsX7_parse ({ frames := 1, cells := 0, slots := 0, locals := 20 } : Room)).room s m ([Value.ref h0] : List Value).toArray below meth c H locs 0 0 (MQ below (he_Qi dC dI dA κ B (fun r u => hg_Q (fun a b => (a = 27 ∧ b = 12) ∨ (a = 30 ∧ 108 ≤ b ∧ b < 117) ∨ (a = 29 ∧ 6480 ≤ b ∧ b < 7020)) g u ∧ (r.toInt = 0 ↔ (hq_P (g 38) (g 11 1) 351 0 0 hc_e (g 27 12)).1 = true) ∧ 0 ≤ r.toInt ∧ hm_con u 12 = (hq_P (g 38) (g 11 1) 351 0 0 hc_e (g 27 12)).2.1 ∧ u 27 12 = (hq_P (g 38) (g 11 1) 351 0 0 hc_e (g 27 12)).2.2 ∧ 0 ≤ u 27 12 ∧ u 27 12 ≤ 65535)) ([Value.ref h0] : List Value).toArray s 0 0 (hp_A B)) (F0 m 28 ls []) := by
          intro nlp19
          induction nlp19 with
          | zero => intro v16 v17 g18 H locs ls iv21 iv22 iv23 iv24 iv25 iv26 iv27 hm20 hJ hl; exact absurd hm20 (by omega)
          | succ nlp19 ihlp19 =>
            intro v16 v17 g18 H locs ls iv21 iv22 iv23 iv24 iv25 iv26 iv27 hm20 hJ hl
            refine lv_iload_n hx hb dX7_parse_28 rfl (lv_at hl 1 rfl) ?_
            refine hq_iconst hx hb dX7_parse_29 (by decide) (by decide) (fun z28 ez28 => ?_)
            refine hq_iadd hx hb dX7_parse_30 (by omega) (by omega) (fun x29 ex29 => ?_)
            refine lv_aload_n hx hb dX7_parse_31 rfl (lv_at hl 0 rfl) ?_
            refine he_geti (C := RX7) (T := TX7) (N := 24) (ci := 7) (kd := 11) hx hb hts iX7_parse_X7 hown hK hJ k0 rfl rfl 1 (by decide) (hts (.fieldLink RX7 70 "NeighborBookModel" "typedSize" "I") (List.mem_of_getElem? (i := 2) rfl)) (fun _ h9 => h9) rfl rfl dX7_parse_32 (fun x30 ex30 => ?_)
            have ex30 : x30.toInt = g18 11 1 ∧ 0 ≤ x30.toInt ∧ x30.toInt ≤ 700 := ex30
            refine hq_icmp_le (tgt := 40) hx hb dX7_parse_35 (by decide) (fun c31 => ?_) (fun c31 => ?_)
            · refine lv_aload_n hx hb dX7_parse_40 rfl (lv_at hl 0 rfl) ?_
              refine he_getr (C := RX7) (T := TX7) (N := 24) (ci := 7) (kd := 11) hx hb hts iX7_parse_X7 hown hK hJ k0 rfl rfl 0 (by decide) (hts (.fieldLink RX7 7 "NeighborBookModel" "typed" "[B") (List.mem_of_getElem? (i := 3) rfl)) (fun _ h9 => h9) rfl dX7_parse_41 (fun b32 kb32 => ?_)
              refine lv_iload_n hx hb dX7_parse_44 rfl (lv_at hl 1 rfl) ?_
              refine he_bald (kd := 38) (n := 700) hx hb hK hJ kb32 rfl (by omega) (by omega) (sp := (11, 0)) rfl rfl dX7_parse_45 (fun x33 ex33 => ?_)
              have ex33 : x33.toInt = g18 38 v16.toInt.toNat ∧ -128 ≤ x33.toInt ∧ x33.toInt ≤ 127 := ex33
              refine hq_iconst hx hb dX7_parse_46 (by decide) (by decide) (fun z34 ez34 => ?_)
              refine hq_ishr1 hx hb dX7_parse_47 ez34 (by omega) (by omega) (fun x35 ex35 => ?_)
              refine hq_bipush hx hb dX7_parse_48 (by decide) (fun z36 ez36 => ?_)
              refine hq_iand127 hx hb dX7_parse_50 ez36 (fun x37 ex37 => ?_)
              refine lv_istore_n (lv' := [(3, .int x37), (0, .ref h0), (1, .int v16), (2, .int v17)]) hx hb dX7_parse_51 rfl hl (by decide) rfl (fun ls hl => ?_)
              refine lv_aload_n hx hb dX7_parse_52 rfl (lv_at hl 1 rfl) ?_
              refine he_getr (C := RX7) (T := TX7) (N := 24) (ci := 7) (kd := 11) hx hb hts iX7_parse_X7 hown hK hJ k0 rfl rfl 0 (by decide) (hts (.fieldLink RX7 7 "NeighborBookModel" "typed" "[B") (List.mem_of_getElem? (i := 3) rfl)) (fun _ h9 => h9) rfl dX7_parse_53 (fun b38 kb38 => ?_)
              refine lv_iload_n hx hb dX7_parse_56 rfl (lv_at hl 2 rfl) ?_
              refine he_bald (kd := 38) (n := 700) hx hb hK hJ kb38 rfl (by omega) (by omega) (sp := (11, 0)) rfl rfl dX7_parse_57 (fun x39 ex39 => ?_)
              have ex39 : x39.toInt = g18 38 v16.toInt.toNat ∧ -128 ≤ x39.toInt ∧ x39.toInt ≤ 127 := ex39
              refine hq_iconst hx hb dX7_parse_58 (by decide) (by decide) (fun z40 ez40 => ?_)
              refine hq_iand1 hx hb dX7_parse_59 ez40 (fun x41 ex41 => ?_)
              refine hq_bipush hx hb dX7_parse_60 (by decide) (fun z42 ez42 => ?_)
              refine hq_ishl8e hx hb dX7_parse_62 ez42 (by omega) (by omega) (fun x43 ex43 => ?_)
              refine lv_aload_n hx hb dX7_parse_63 rfl (lv_at hl 1 rfl) ?_
              refine he_getr (C := RX7) (T := TX7) (N := 24) (ci := 7) (kd := 11) hx hb hts iX7_parse_X7 hown hK hJ k0 rfl rfl 0 (by decide) (hts (.fieldLink RX7 7 "NeighborBookModel" "typed" "[B") (List.mem_of_getElem? (i := 3) rfl)) (fun _ h9 => h9) rfl dX7_parse_64 (fun b44 kb44 => ?_)
              refine lv_iload_n hx hb dX7_parse_67 rfl (lv_at hl 2 rfl) ?_
              refine hq_iconst hx hb dX7_parse_68 (by decide) (by decide) (fun z45 ez45 => ?_)
              refine hq_iadd hx hb dX7_parse_69 (by omega) (by omega) (fun x46 ex46 => ?_)
              refine he_bald (kd := 38) (n := 700) hx hb hK hJ kb44 rfl (by omega) (by omega) (sp := (11, 0)) rfl rfl dX7_parse_70 (fun x47 ex47 => ?_)
              have ex47 : x47.toInt = g18 38 x46.toInt.toNat ∧ -128 ≤ x47.toInt ∧ x47.toInt ≤ 127 := ex47
              refine hq_sipush hx hb dX7_parse_71 (by decide) (fun z48 ez48 => ?_)
              refine hq_iand255 hx hb dX7_parse_74 ez48 (fun x49 ex49 => ?_)
              refine hq_ior16 hx hb dX7_parse_75 (m9 := x41.toInt) (by omega) (by omega) (by omega) (by omega) (by omega) (fun x50 ex50 => ?_)
              refine lv_istore (lv' := [(4, .int x50), (3, .int x37), (0, .ref h0), (1, .int v16), (2, .int v17)]) hx hb dX7_parse_76 hl (by decide) rfl (fun ls hl => ?_)
              have hA : g18 38 v16.toInt.toNat = g 38 v16.toInt.toNat := iv21 38 _ (fun h8 => by have h8 : (38 = 27 ∧ v16.toInt.toNat = 12) ∨ (38 = 30 ∧ 108 ≤ v16.toInt.toNat ∧ v16.toInt.toNat < 117) ∨ (38 = 29 ∧ 6480 ≤ v16.toInt.toNat ∧ v16.toInt.toNat < 7020) := h8; omega)
              have hB : g18 38 (v16.toInt.toNat + 1) = g 38 (v16.toInt.toNat + 1) := iv21 38 _ (fun h8 => by have h8 : (38 = 27 ∧ (v16.toInt.toNat + 1) = 12) ∨ (38 = 30 ∧ 108 ≤ (v16.toInt.toNat + 1) ∧ (v16.toInt.toNat + 1) < 117) ∨ (38 = 29 ∧ 6480 ≤ (v16.toInt.toNat + 1) ∧ (v16.toInt.toNat + 1) < 7020) := h8; omega)
              have hxi : x46.toInt.toNat = v16.toInt.toNat + 1 := by omega
              rw [hxi] at ex47
              have hty : hq_t (g 38) v16.toInt.toNat = x37.toInt.toNat := by unfold hq_t; omega
              have hnn : hq_n (g 38) v16.toInt.toNat = x50.toInt.toNat := by unfold hq_n; omega
              have hne9 : ¬ g 11 1 < (v16.toInt.toNat : Int) + 2 := by omega
              have hm1 : (351 - v17.toInt).toNat = (350 - v17.toInt).toNat + 1 := by omega
              have hszl := he_msz hJ k0
              have hT128 : x37.toInt ≤ 127 ∧ x50.toInt ≤ 511 ∧ 0 ≤ x50.toInt ∧ 0 ≤ x37.toInt := by omega
              refine hq_iinc (k := 3) (lv' := fun (z9 : Int32) => [(1, .int z9), (4, .int x50), (3, .int x37), (0, .ref h0), (2, .int v17)]) hx hb dX7_parse_78 hl rfl (by decide) (by decide) (by omega) (by omega) (by decide) (fun _ => rfl) (fun x51 ls ex51 hl => ?_)
              have hl : lv_has ls 7 [(1, .int x51), (4, .int x50), (3, .int x37), (0, .ref h0), (2, .int v17)] := hl
              have ct53 : ∀ (g52 : Nat → Nat → Int) (H : Heap) (locs : List Loc) (ls : Array Slot), (hg_Q (fun a b => (a = 27 ∧ b = 12) ∨ (a = 30 ∧ 108 ≤ b ∧ b < 117) ∨ (a = 29 ∧ 6480 ≤ b ∧ b < 7020)) g g52) → (x51.toInt + x50.toInt ≤ g 11 1) → (0 ≤ g52 27 12 ∧ g52 27 12 ≤ 65535) → (g52 11 1 = g 11 1) → (hq_P (g 38) (g 11 1) (350 - v17.toInt).toNat (x51.toInt + x50.toInt).toNat (v17.toInt.toNat + 1) (hm_con g52 12) (g52 27 12) = hq_P (g 38) (g 11 1) 351 0 0 hc_e (g 27 12)) → he_J dC dI dA κ B g52 s.heap H locs → lv_has ls 7 [(0, .ref h0), (1, .int x51), (2, .int v17), (3, .int x37), (4, .int x50)] → W p l e (headSpec wsX7_parse ({ frames := 1, cells := 0, slots := 0, locals := 20 } : Room)).room s m ([Value.ref h0] : List Value).toArray below meth c H locs 0 0 (MQ below (he_Qi dC dI dA κ B (fun r u => hg_Q (fun a b => (a = 27 ∧ b = 12) ∨ (a = 30 ∧ 108 ≤ b ∧ b < 117) ∨ (a = 29 ∧ 6480 ≤ b ∧ b < 7020)) g u ∧ (r.toInt = 0 ↔ (hq_P (g 38) (g 11 1) 351 0 0 hc_e (g 27 12)).1 = true) ∧ 0 ≤ r.toInt ∧ hm_con u 12 = (hq_P (g 38) (g 11 1) 351 0 0 hc_e (g 27 12)).2.1 ∧ u 27 12 = (hq_P (g 38) (g 11 1) 351 0 0 hc_e (g 27 12)).2.2 ∧ 0 ≤ u 27 12 ∧ u 27 12 ≤ 65535)) ([Value.ref h0] : List Value).toArray s 0 0 (hp_A B)) (F0 m 336 ls []) := by
                intro g52 H locs ls iv54 iv55 iv56 iv57 iv58 hJ hl
                refine lv_iload_n hx hb dX7_parse_336 rfl (lv_at hl 1 rfl) ?_
                refine lv_iload hx hb dX7_parse_337 (lv_at hl 4 rfl) ?_
                refine hq_iadd hx hb dX7_parse_339 (by omega) (by omega) (fun x59 ex59 => ?_)
                refine lv_istore_n (lv' := [(1, .int x59), (0, .ref h0), (2, .int v17), (3, .int x37), (4, .int x50)]) hx hb dX7_parse_340 rfl hl (by decide) rfl (fun ls hl => ?_)
                refine hq_iinc (k := 2) (lv' := fun (z9 : Int32) => [(2, .int z9), (1, .int x59), (0, .ref h0), (3, .int x37), (4, .int x50)]) hx hb dX7_parse_341 hl rfl (by decide) (by decide) (by omega) (by omega) (by decide) (fun _ => rfl) (fun x60 ls ex60 hl => ?_)
                have hl : lv_has ls 7 [(2, .int x60), (1, .int x59), (0, .ref h0), (3, .int x37), (4, .int x50)] := hl
                refine lv_goto (tgt := 28) hx hb dX7_parse_344 (by decide) ?_
                exact ihlp19 x59 x60 g52 _ _ ls iv54 (by omega) (by omega) (by omega) (by omega) (by omega) (by rw [show (351 - x60.toInt).toNat = (350 - v17.toInt).toNat by omega, show x59.toInt.toNat = (x51.toInt + x50.toInt).toNat by omega, show x60.toInt.toNat = v17.toInt.toNat + 1 by omega]; exact iv58) (by omega) hJ (lv_sub hl [2, 1, 0] rfl)
              have ct61 : ∀ (H : Heap) (locs : List Loc) (ls : Array Slot), (hm_ord v17.toInt x37.toInt) → (¬ hm_ws x37.toInt x50.toInt) → (¬ hm_du x37.toInt (g18 30 (108 + x37.toInt.toNat))) → he_J dC dI dA κ B g18 s.heap H locs → lv_has ls 7 [(0, .ref h0), (1, .int x51), (2, .int v17), (3, .int x37), (4, .int x50)] → W p l e (headSpec wsX7_parse ({ frames := 1, cells := 0, slots := 0, locals := 20 } : Room)).room s m ([Value.ref h0] : List Value).toArray below meth c H locs 0 0 (MQ below (he_Qi dC dI dA κ B (fun r u => hg_Q (fun a b => (a = 27 ∧ b = 12) ∨ (a = 30 ∧ 108 ≤ b ∧ b < 117) ∨ (a = 29 ∧ 6480 ≤ b ∧ b < 7020)) g u ∧ (r.toInt = 0 ↔ (hq_P (g 38) (g 11 1) 351 0 0 hc_e (g 27 12)).1 = true) ∧ 0 ≤ r.toInt ∧ hm_con u 12 = (hq_P (g 38) (g 11 1) 351 0 0 hc_e (g 27 12)).2.1 ∧ u 27 12 = (hq_P (g 38) (g 11 1) 351 0 0 hc_e (g 27 12)).2.2 ∧ 0 ≤ u 27 12 ∧ u 27 12 ≤ 65535)) ([Value.ref h0] : List Value).toArray s 0 0 (hp_A B)) (F0 m 219 ls []) := by
                intro  H locs ls iv62 iv63 iv64 hJ hl
                refine lv_iload_n hx hb dX7_parse_219 rfl (lv_at hl 1 rfl) ?_
                refine lv_iload hx hb dX7_parse_220 (lv_at hl 4 rfl) ?_
                refine hq_iadd hx hb dX7_parse_222 (by omega) (by omega) (fun x65 ex65 => ?_)
                refine lv_aload_n hx hb dX7_parse_223 rfl (lv_at hl 0 rfl) ?_
                refine he_geti (C := RX7) (T := TX7) (N := 24) (ci := 7) (kd := 11) hx hb hts iX7_parse_X7 hown hK hJ k0 rfl rfl 1 (by decide) (hts (.fieldLink RX7 70 "NeighborBookModel" "typedSize" "I") (List.mem_of_getElem? (i := 2) rfl)) (fun _ h9 => h9) rfl rfl dX7_parse_224 (fun x66 ex66 => ?_)
                have ex66 : x66.toInt = g18 11 1 ∧ 0 ≤ x66.toInt ∧ x66.toInt ≤ 700 := ex66
                refine hq_icmp_le (tgt := 232) hx hb dX7_parse_227 (by decide) (fun c67 => ?_) (fun c67 => ?_)
                · have hokk : hq_ok v17.toInt.toNat (hq_t (g 38) v16.toInt.toNat) (hq_n (g 38) v16.toInt.toNat) (g 11 1 - v16.toInt.toNat - 2) ((hm_con g18 12).1 (hq_t (g 38) v16.toInt.toNat)) := by
                    rw [hty, hnn]
                    refine hm_ok (by omega) (by omega) (by omega) iv62 iv63 (by omega) ?_
                    by_cases h8 : x37.toInt ≤ 8
                    · rw [hm_con_1 (by omega), show 9 * 12 + x37.toInt.toNat = 108 + x37.toInt.toNat by omega]; exact iv64
                    · exact fun h9 => h8 h9.2.1
                  refine lv_iload_n hx hb dX7_parse_232 rfl (lv_at hl 3 rfl) ?_
                  refine hq_if_ne (tgt := 238) hx hb dX7_parse_233 (by decide) (fun c68 => ?_) (fun c68 => ?_)
                  · refine lv_iload_n hx hb dX7_parse_238 rfl (lv_at hl 3 rfl) ?_
                    refine hq_iconst hx hb dX7_parse_239 (by decide) (by decide) (fun z69 ez69 => ?_)
                    refine hq_icmp_ne (tgt := 279) hx hb dX7_parse_240 (by decide) (fun c70 => ?_) (fun c70 => ?_)
                    · refine lv_iload_n hx hb dX7_parse_279 rfl (lv_at hl 3 rfl) ?_
                      refine hq_bipush hx hb dX7_parse_280 (by decide) (fun z71 ez71 => ?_)
                      refine hq_icmp_ge (tgt := 336) hx hb dX7_parse_282 (by decide) (fun c72 => ?_) (fun c72 => ?_)
                      · exact ct53 g18 _ _ ls iv21 (by omega) (by omega) (by omega) (by
                          rw [← iv27, hm1, show (x51.toInt + x50.toInt).toNat = v16.toInt.toNat + 2 + hq_n (g 38) v16.toInt.toNat by omega]
                          rw [hq_P_9 hne9 hokk (by rw [hty]; omega)]) hJ (lv_sub hl [0, 1, 2, 3, 4] rfl)
                      · have hn60 : x50.toInt ≤ 60 := hm_ws_60 iv63 (by omega) (by omega) (by omega) (by omega)
                        refine lv_aload_n hx hb dX7_parse_285 rfl (lv_at hl 0 rfl) ?_
                        refine he_getr (C := RX7) (T := TX7) (N := 24) (ci := 7) (kd := 11) hx hb hts iX7_parse_X7 hown hK hJ k0 rfl rfl 18 (by decide) (hts (.fieldLink RX7 61 "NeighborBookModel" "sizes" "[I") (List.mem_of_getElem? (i := 1) rfl)) (fun _ h9 => h9) rfl dX7_parse_286 (fun b73 kb73 => ?_)
                        refine hq_bipush hx hb dX7_parse_289 (by decide) (fun z74 ez74 => ?_)
                        refine lv_iload_n hx hb dX7_parse_291 rfl (lv_at hl 3 rfl) ?_
                        refine hq_iadd hx hb dX7_parse_292 (by omega) (by omega) (fun x75 ex75 => ?_)
                        refine lv_iload hx hb dX7_parse_293 (lv_at hl 4 rfl) ?_
                        refine he_iastx (kd := 30) (n := 117) hx hb hK hJ kb73 rfl (by omega) (by omega) (by decide) hW rfl (sp := (10, 60)) rfl rfl (show x50.toInt = x50.toInt ∧ -1 ≤ x50.toInt ∧ x50.toInt ≤ 60 from ⟨rfl, by omega, by omega⟩) dX7_parse_295 (fun g76 H locs eg76 ng76 hJ => ?_)
                        have eg76 : g76 30 x75.toInt.toNat = x50.toInt := eg76
                        have P77 : hg_Q (fun a b => (a = 27 ∧ b = 12) ∨ (a = 30 ∧ 108 ≤ b ∧ b < 117) ∨ (a = 29 ∧ 6480 ≤ b ∧ b < 7020)) g g76 := hg_Q.put iv21 ng76 (show (30 = 27 ∧ x75.toInt.toNat = 12) ∨ (30 = 30 ∧ 108 ≤ x75.toInt.toNat ∧ x75.toInt.toNat < 117) ∨ (30 = 29 ∧ 6480 ≤ x75.toInt.toNat ∧ x75.toInt.toNat < 7020) from by omega)
                        have qt78 : g76 27 12 = g18 27 12 := ng76 27 12 (by omega)
                        have qt79 : g76 11 1 = g18 11 1 := ng76 11 1 (by omega)
                        have hs95 : g76 30 (108 + x37.toInt.toNat) = x50.toInt := by
                          rw [show 108 + x37.toInt.toNat = x75.toInt.toNat by omega]
                          exact eg76
                        have hz95 : x75.toInt.toNat = 108 + x37.toInt.toNat := by omega
                        have hP95 : hg_Q (fun a b => a = 30 ∧ b = 108 + x37.toInt.toNat) g18 g76 := fun a b h9 => ng76 a b (fun h8 => h9 ⟨h8.1, by omega⟩)
                        refine hq_iconst hx hb dX7_parse_296 (by decide) (by decide) (fun z80 ez80 => ?_)
                        refine lv_istore (lv' := [(6, .int z80), (0, .ref h0), (1, .int x51), (2, .int v17), (3, .int x37), (4, .int x50)]) hx hb dX7_parse_297 hl (by decide) rfl (fun ls hl => ?_)
                        have lp83 : ∀ (nlp83 : Nat) (v81 : Int32) (g82 : Nat → Nat → Int) (H : Heap) (locs : List Loc) (ls : Array Slot), (hg_Q (fun a b => (a = 27 ∧ b = 12) ∨ (a = 30 ∧ 108 ≤ b ∧ b < 117) ∨ (a = 29 ∧ 6480 ≤ b ∧ b < 7020)) g g82) → (0 ≤ v81.toInt) → (v81.toInt ≤ 60 ∧ v81.toInt ≤ x50.toInt) → (0 ≤ g82 27 12 ∧ g82 27 12 ≤ 65535) → (g82 27 12 = g18 27 12 ∧ g82 11 1 = g 11 1) → (hg_Q (fun a b => a = 29 ∧ ((108 + x37.toInt.toNat) * 60) ≤ b ∧ b < ((108 + x37.toInt.toNat) * 60) + 60) g76 g82) → (∀ k : Nat, (k : Int) < v81.toInt → g82 29 (((108 + x37.toInt.toNat) * 60) + k) = g 38 (v16.toInt.toNat + 2 + k)) → (61 - v81.toInt < (nlp83 : Int)) → he_J dC dI dA κ B g82 s.heap H locs → lv_has ls 7 [(0, .ref h0), (1, .int x51), (2, .int v17), (3, .int x37), (4, .int x50), (6, .int v81)] → W p l e (headSpec wsX7_parse ({ frames := 1, cells := 0, slots := 0, locals := 20 } : Room)).room s m ([Value.ref h0] : List Value).toArray below meth c H locs 0 0 (MQ below (he_Qi dC dI dA κ B (fun r u => hg_Q (fun a b => (a = 27 ∧ b = 12) ∨ (a = 30 ∧ 108 ≤ b ∧ b < 117) ∨ (a = 29 ∧ 6480 ≤ b ∧ b < 7020)) g u ∧ (r.toInt = 0 ↔ (hq_P (g 38) (g 11 1) 351 0 0 hc_e (g 27 12)).1 = true) ∧ 0 ≤ r.toInt ∧ hm_con u 12 = (hq_P (g 38) (g 11 1) 351 0 0 hc_e (g 27 12)).2.1 ∧ u 27 12 = (hq_P (g 38) (g 11 1) 351 0 0 hc_e (g 27 12)).2.2 ∧ 0 ≤ u 27 12 ∧ u 27 12 ≤ 65535)) ([Value.ref h0] : List Value).toArray s 0 0 (hp_A B)) (F0 m 299 ls []) := by
                          intro nlp83
                          induction nlp83 with
                          | zero => intro v81 g82 H locs ls iv85 iv86 iv87 iv88 iv89 iv90 iv91 hm84 hJ hl; exact absurd hm84 (by omega)
                          | succ nlp83 ihlp83 =>
                            intro v81 g82 H locs ls iv85 iv86 iv87 iv88 iv89 iv90 iv91 hm84 hJ hl
                            refine lv_iload hx hb dX7_parse_299 (lv_at hl 5 rfl) ?_
                            refine lv_iload hx hb dX7_parse_301 (lv_at hl 4 rfl) ?_
                            refine hq_icmp_ge (tgt := 336) hx hb dX7_parse_303 (by decide) (fun c92 => ?_) (fun c92 => ?_)
                            · have hkm : hm_con g82 12 = hc_kp (hm_con g18 12) x37.toInt.toNat x50.toInt.toNat (fun k => g 38 (v16.toInt.toNat + 2 + k)) := by
                                refine hc_kp_m (by omega) (by omega) ?_ (fun x hx hxt => ?_) (fun k hk => ?_) (fun x k hx hxt hk => ?_) (fun x hx => hszl _ (by omega))
                                · rw [show 9 * 12 + x37.toInt.toNat = 108 + x37.toInt.toNat by omega, iv90 30 _ (fun h8 => by have h8 : 30 = 29 ∧ _ := h8; omega), hs95]; omega
                                · rw [iv90 30 _ (fun h8 => by have h8 : 30 = 29 ∧ _ := h8; omega), hP95 30 _ (fun h8 => by have h8 : 30 = 30 ∧ 9 * 12 + x = 108 + x37.toInt.toNat := h8; omega)]
                                · rw [show (9 * 12 + x37.toInt.toNat) * 60 + k = ((108 + x37.toInt.toNat) * 60) + k by omega]; exact iv91 k (by omega)
                                · rw [iv90 29 _ (fun h8 => by have h8 : 29 = 29 ∧ ((108 + x37.toInt.toNat) * 60) ≤ (9 * 12 + x) * 60 + k ∧ (9 * 12 + x) * 60 + k < ((108 + x37.toInt.toNat) * 60) + 60 := h8; omega), hP95 29 _ (fun h8 => by have h8 : 29 = 30 ∧ _ := h8; omega)]
                              exact ct53 g82 _ _ ls iv85 (by omega) (by omega) (by omega) (by
                                rw [← iv27, hm1, show (x51.toInt + x50.toInt).toNat = v16.toInt.toNat + 2 + hq_n (g 38) v16.toInt.toNat by omega]
                                rw [hq_P_k hne9 hokk (by rw [hty]; omega) (by rw [hty]; omega) (by rw [hty]; omega), hkm, hnn, hty, show g82 27 12 = g18 27 12 by omega]) hJ (lv_sub hl [0, 1, 2, 3, 4] rfl)
                            · refine lv_aload_n hx hb dX7_parse_306 rfl (lv_at hl 0 rfl) ?_
                              refine he_getr (C := RX7) (T := TX7) (N := 24) (ci := 7) (kd := 11) hx hb hts iX7_parse_X7 hown hK hJ k0 rfl rfl 17 (by decide) (hts (.fieldLink RX7 58 "NeighborBookModel" "bytes" "[B") (List.mem_of_getElem? (i := 5) rfl)) (fun _ h9 => h9) rfl dX7_parse_307 (fun b93 kb93 => ?_)
                              refine hq_bipush hx hb dX7_parse_310 (by decide) (fun z94 ez94 => ?_)
                              refine lv_iload_n hx hb dX7_parse_312 rfl (lv_at hl 3 rfl) ?_
                              refine hq_iadd hx hb dX7_parse_313 (by omega) (by omega) (fun x95 ex95 => ?_)
                              refine hq_bipush hx hb dX7_parse_314 (by decide) (fun z96 ez96 => ?_)
                              refine hq_imul (w := x95.toInt * 60) hx hb dX7_parse_316 (by rw [ez96]) (by omega) (by omega) (fun x97 ex97 => ?_)
                              refine lv_iload hx hb dX7_parse_317 (lv_at hl 5 rfl) ?_
                              refine hq_iadd hx hb dX7_parse_319 (by omega) (by omega) (fun x98 ex98 => ?_)
                              refine lv_aload_n hx hb dX7_parse_320 rfl (lv_at hl 0 rfl) ?_
                              refine he_getr (C := RX7) (T := TX7) (N := 24) (ci := 7) (kd := 11) hx hb hts iX7_parse_X7 hown hK hJ k0 rfl rfl 0 (by decide) (hts (.fieldLink RX7 7 "NeighborBookModel" "typed" "[B") (List.mem_of_getElem? (i := 3) rfl)) (fun _ h9 => h9) rfl dX7_parse_321 (fun b99 kb99 => ?_)
                              refine lv_iload_n hx hb dX7_parse_324 rfl (lv_at hl 1 rfl) ?_
                              refine lv_iload hx hb dX7_parse_325 (lv_at hl 5 rfl) ?_
                              refine hq_iadd hx hb dX7_parse_327 (by omega) (by omega) (fun x100 ex100 => ?_)
                              refine he_bald (kd := 38) (n := 700) hx hb hK hJ kb99 rfl (by omega) (by omega) (sp := (11, 0)) rfl rfl dX7_parse_328 (fun x101 ex101 => ?_)
                              have ex101 : x101.toInt = g82 38 x100.toInt.toNat ∧ -128 ≤ x101.toInt ∧ x101.toInt ≤ 127 := ex101
                              have hy38 : x101.toInt = g 38 (v16.toInt.toNat + 2 + v81.toInt.toNat) := by
                                have hx8 : x100.toInt.toNat = v16.toInt.toNat + 2 + v81.toInt.toNat := by omega
                                have h9 := ex101
                                rw [hx8] at h9
                                rw [h9.1]
                                exact iv85 38 _ (fun h8 => by have h8 : (38 = 27 ∧ (v16.toInt.toNat + 2 + v81.toInt.toNat) = 12) ∨ (38 = 30 ∧ 108 ≤ (v16.toInt.toNat + 2 + v81.toInt.toNat) ∧ (v16.toInt.toNat + 2 + v81.toInt.toNat) < 117) ∨ (38 = 29 ∧ 6480 ≤ (v16.toInt.toNat + 2 + v81.toInt.toNat) ∧ (v16.toInt.toNat + 2 + v81.toInt.toNat) < 7020) := h8; omega)
                              refine he_bastx (kd := 29) (n := 7020) hx hb hK hJ kb93 rfl (by omega) (by omega) (by decide) hW rfl rfl (by omega) (by omega) dX7_parse_329 (fun g102 H locs eg102 ng102 hJ => ?_)
                              have eg102 : g102 29 x98.toInt.toNat = x101.toInt := eg102
                              have P103 : hg_Q (fun a b => (a = 27 ∧ b = 12) ∨ (a = 30 ∧ 108 ≤ b ∧ b < 117) ∨ (a = 29 ∧ 6480 ≤ b ∧ b < 7020)) g g102 := hg_Q.put iv85 ng102 (show (29 = 27 ∧ x98.toInt.toNat = 12) ∨ (29 = 30 ∧ 108 ≤ x98.toInt.toNat ∧ x98.toInt.toNat < 117) ∨ (29 = 29 ∧ 6480 ≤ x98.toInt.toNat ∧ x98.toInt.toNat < 7020) from by omega)
                              have qt104 : g102 27 12 = g82 27 12 := ng102 27 12 (by omega)
                              have qt105 : g102 11 1 = g82 11 1 := ng102 11 1 (by omega)
                              refine hq_iinc (k := 5) (lv' := fun (z9 : Int32) => [(6, .int z9), (0, .ref h0), (1, .int x51), (2, .int v17), (3, .int x37), (4, .int x50)]) hx hb dX7_parse_330 hl rfl (by decide) (by decide) (by omega) (by omega) (by decide) (fun _ => rfl) (fun x106 ls ex106 hl => ?_)
                              have hl : lv_has ls 7 [(6, .int x106), (0, .ref h0), (1, .int x51), (2, .int v17), (3, .int x37), (4, .int x50)] := hl
                              refine lv_goto (tgt := 299) hx hb dX7_parse_333 (by decide) ?_
                              exact ihlp83 x106 g102 _ _ ls P103 (by omega) (by omega) (by omega) (by omega) (hg_Q.put iv90 ng102 ⟨rfl, by omega, by omega⟩) (fun k hk => by
                                by_cases h9 : k = v81.toInt.toNat
                                · rw [h9, show ((108 + x37.toInt.toNat) * 60) + v81.toInt.toNat = x98.toInt.toNat by omega, eg102, hy38]
                                · rw [ng102 29 (((108 + x37.toInt.toNat) * 60) + k) (by omega)]
                                  exact iv91 k (by omega)) (by omega) hJ (lv_sub hl [1, 2, 3, 4, 5, 0] rfl)
                        exact lp83 ((61 - z80.toInt).toNat + 1) z80 g76 _ _ ls P77 (by omega) (by omega) (by omega) (by omega) hg_Q.rf (fun k hk => absurd hk (by omega)) (by omega) hJ (lv_sub hl [1, 2, 3, 4, 5, 0] rfl)
                    · have hn2 : 2 ≤ x50.toInt := hm_ws_3 iv63 (by omega)
                      refine lv_aload_n hx hb dX7_parse_243 rfl (lv_at hl 0 rfl) ?_
                      refine he_getr (C := RX7) (T := TX7) (N := 24) (ci := 7) (kd := 11) hx hb hts iX7_parse_X7 hown hK hJ k0 rfl rfl 15 (by decide) (hts (.fieldLink RX7 52 "NeighborBookModel" "left" "[I") (List.mem_of_getElem? (i := 4) rfl)) (fun _ h9 => h9) rfl dX7_parse_244 (fun b107 kb107 => ?_)
                      refine hq_bipush hx hb dX7_parse_247 (by decide) (fun z108 ez108 => ?_)
                      refine lv_aload_n hx hb dX7_parse_249 rfl (lv_at hl 0 rfl) ?_
                      refine he_getr (C := RX7) (T := TX7) (N := 24) (ci := 7) (kd := 11) hx hb hts iX7_parse_X7 hown hK hJ k0 rfl rfl 0 (by decide) (hts (.fieldLink RX7 7 "NeighborBookModel" "typed" "[B") (List.mem_of_getElem? (i := 3) rfl)) (fun _ h9 => h9) rfl dX7_parse_250 (fun b109 kb109 => ?_)
                      refine lv_iload_n hx hb dX7_parse_253 rfl (lv_at hl 1 rfl) ?_
                      refine he_bald (kd := 38) (n := 700) hx hb hK hJ kb109 rfl (by omega) (by omega) (sp := (11, 0)) rfl rfl dX7_parse_254 (fun x110 ex110 => ?_)
                      have ex110 : x110.toInt = g18 38 x51.toInt.toNat ∧ -128 ≤ x110.toInt ∧ x110.toInt ≤ 127 := ex110
                      refine hq_sipush hx hb dX7_parse_255 (by decide) (fun z111 ez111 => ?_)
                      refine hq_iand255 hx hb dX7_parse_258 ez111 (fun x112 ex112 => ?_)
                      refine hq_bipush hx hb dX7_parse_259 (by decide) (fun z113 ez113 => ?_)
                      refine hq_ishl8e hx hb dX7_parse_261 ez113 (by omega) (by omega) (fun x114 ex114 => ?_)
                      refine lv_aload_n hx hb dX7_parse_262 rfl (lv_at hl 0 rfl) ?_
                      refine he_getr (C := RX7) (T := TX7) (N := 24) (ci := 7) (kd := 11) hx hb hts iX7_parse_X7 hown hK hJ k0 rfl rfl 0 (by decide) (hts (.fieldLink RX7 7 "NeighborBookModel" "typed" "[B") (List.mem_of_getElem? (i := 3) rfl)) (fun _ h9 => h9) rfl dX7_parse_263 (fun b115 kb115 => ?_)
                      refine lv_iload_n hx hb dX7_parse_266 rfl (lv_at hl 1 rfl) ?_
                      refine hq_iconst hx hb dX7_parse_267 (by decide) (by decide) (fun z116 ez116 => ?_)
                      refine hq_iadd hx hb dX7_parse_268 (by omega) (by omega) (fun x117 ex117 => ?_)
                      refine he_bald (kd := 38) (n := 700) hx hb hK hJ kb115 rfl (by omega) (by omega) (sp := (11, 0)) rfl rfl dX7_parse_269 (fun x118 ex118 => ?_)
                      have ex118 : x118.toInt = g18 38 x117.toInt.toNat ∧ -128 ≤ x118.toInt ∧ x118.toInt ≤ 127 := ex118
                      refine hq_sipush hx hb dX7_parse_270 (by decide) (fun z119 ez119 => ?_)
                      refine hq_iand255 hx hb dX7_parse_273 ez119 (fun x120 ex120 => ?_)
                      refine hq_ior16 hx hb dX7_parse_274 (m9 := x112.toInt) (by omega) (by omega) (by omega) (by omega) (by omega) (fun x121 ex121 => ?_)
                      refine he_iastx (kd := 27) (n := 13) hx hb hK hJ kb107 rfl (by omega) (by omega) (by decide) hW rfl (sp := (0, 0)) rfl rfl rfl dX7_parse_275 (fun g122 H locs eg122 ng122 hJ => ?_)
                      have eg122 : g122 27 z108.toInt.toNat = x121.toInt := eg122
                      have P123 : hg_Q (fun a b => (a = 27 ∧ b = 12) ∨ (a = 30 ∧ 108 ≤ b ∧ b < 117) ∨ (a = 29 ∧ 6480 ≤ b ∧ b < 7020)) g g122 := hg_Q.put iv21 ng122 (show (27 = 27 ∧ z108.toInt.toNat = 12) ∨ (27 = 30 ∧ 108 ≤ z108.toInt.toNat ∧ z108.toInt.toNat < 117) ∨ (27 = 29 ∧ 6480 ≤ z108.toInt.toNat ∧ z108.toInt.toNat < 7020) from by omega)
                      have qt124 : g122 11 1 = g18 11 1 := ng122 11 1 (by omega)
                      have q27 : g122 27 12 = x121.toInt := by
                        rw [show (12 : Nat) = z108.toInt.toNat by omega]
                        exact eg122
                      have hz12 : z108.toInt.toNat = 12 := by omega
                      have hmc : hm_con g122 12 = hm_con g18 12 := hm_con_eq (fun t _ => ng122 30 _ (by omega)) (fun k _ => ng122 29 _ (by omega)) (fun t ht => by rw [ng122 30 _ (by omega)]; exact hszl _ (by omega))
                      have hq27 : g122 27 12 = hq_h (g 38) (v16.toInt.toNat + 2) := by
                        have qa : g18 38 (v16.toInt.toNat + 2) = g 38 (v16.toInt.toNat + 2) := iv21 38 _ (fun h8 => by have h8 : (38 = 27 ∧ (v16.toInt.toNat + 2) = 12) ∨ (38 = 30 ∧ 108 ≤ (v16.toInt.toNat + 2) ∧ (v16.toInt.toNat + 2) < 117) ∨ (38 = 29 ∧ 6480 ≤ (v16.toInt.toNat + 2) ∧ (v16.toInt.toNat + 2) < 7020) := h8; omega)
                        have qb : g18 38 (v16.toInt.toNat + 2 + 1) = g 38 (v16.toInt.toNat + 2 + 1) := iv21 38 _ (fun h8 => by have h8 : (38 = 27 ∧ (v16.toInt.toNat + 2 + 1) = 12) ∨ (38 = 30 ∧ 108 ≤ (v16.toInt.toNat + 2 + 1) ∧ (v16.toInt.toNat + 2 + 1) < 117) ∨ (38 = 29 ∧ 6480 ≤ (v16.toInt.toNat + 2 + 1) ∧ (v16.toInt.toNat + 2 + 1) < 7020) := h8; omega)
                        have xa : x51.toInt.toNat = v16.toInt.toNat + 2 := by omega
                        have xb : x117.toInt.toNat = v16.toInt.toNat + 2 + 1 := by omega
                        have ya := ex110
                        have yb := ex118
                        rw [xa] at ya
                        rw [xb] at yb
                        unfold hq_h
                        omega
                      refine lv_goto (tgt := 336) hx hb dX7_parse_276 (by decide) ?_
                      exact ct53 g122 _ _ ls P123 (by omega) (by omega) (by omega) (by
                        rw [← iv27, hm1, show (x51.toInt + x50.toInt).toNat = v16.toInt.toNat + 2 + hq_n (g 38) v16.toInt.toNat by omega]
                        rw [hq_P_3 hne9 hokk (by rw [hty]; omega), hmc, hq27]) hJ (lv_sub hl [0, 1, 2, 3, 4] rfl)
                  · refine hq_iconst hx hb dX7_parse_236 (by decide) (by decide) (fun z125 ez125 => ?_)
                    have hR : (z125.toInt = 0 ↔ (hq_P (g 38) (g 11 1) 351 0 0 hc_e (g 27 12)).1 = true) ∧ 0 ≤ z125.toInt ∧ hm_con g18 12 = (hq_P (g 38) (g 11 1) 351 0 0 hc_e (g 27 12)).2.1 ∧ g18 27 12 = (hq_P (g 38) (g 11 1) 351 0 0 hc_e (g 27 12)).2.2 := by
                      rw [← iv27, hm1, hq_P_0 hne9 hokk (by rw [hty]; omega)]
                      exact ⟨⟨fun _ => rfl, fun _ => by omega⟩, by omega, rfl, rfl⟩
                    exact he_iret hx hb hK hN hW hlocks hJ hr ⟨iv21, hR.1, hR.2.1, hR.2.2.1, hR.2.2.2, by omega, by omega⟩ dX7_parse_237
                · refine hq_iconst hx hb dX7_parse_230 (by decide) (by decide) (fun z126 ez126 => ?_)
                  have hR : (z126.toInt = 0 ↔ (hq_P (g 38) (g 11 1) 351 0 0 hc_e (g 27 12)).1 = true) ∧ 0 ≤ z126.toInt ∧ hm_con g18 12 = (hq_P (g 38) (g 11 1) 351 0 0 hc_e (g 27 12)).2.1 ∧ g18 27 12 = (hq_P (g 38) (g 11 1) 351 0 0 hc_e (g 27 12)).2.2 := by
                    rw [← iv27, hq_P_bad (by rw [hty, hnn]; exact hm_no3 (by omega) (by omega))]
                    exact ⟨⟨fun h9 => absurd h9 (by omega), fun h9 => by cases h9⟩, by omega, rfl, rfl⟩
                  exact he_iret hx hb hK hN hW hlocks hJ hr ⟨iv21, hR.1, hR.2.1, hR.2.2.1, hR.2.2.2, by omega, by omega⟩ dX7_parse_231
              have ct128 : ∀ (w127 : Int32) (H : Heap) (locs : List Loc) (ls : Array Slot), (hm_ord v17.toInt x37.toInt) → (hm_wb w127.toInt x37.toInt x50.toInt) → he_J dC dI dA κ B g18 s.heap H locs → lv_has ls 7 [(0, .ref h0), (1, .int x51), (2, .int v17), (3, .int x37), (4, .int x50)] → W p l e (headSpec wsX7_parse ({ frames := 1, cells := 0, slots := 0, locals := 20 } : Room)).room s m ([Value.ref h0] : List Value).toArray below meth c H locs 0 0 (MQ below (he_Qi dC dI dA κ B (fun r u => hg_Q (fun a b => (a = 27 ∧ b = 12) ∨ (a = 30 ∧ 108 ≤ b ∧ b < 117) ∨ (a = 29 ∧ 6480 ≤ b ∧ b < 7020)) g u ∧ (r.toInt = 0 ↔ (hq_P (g 38) (g 11 1) 351 0 0 hc_e (g 27 12)).1 = true) ∧ 0 ≤ r.toInt ∧ hm_con u 12 = (hq_P (g 38) (g 11 1) 351 0 0 hc_e (g 27 12)).2.1 ∧ u 27 12 = (hq_P (g 38) (g 11 1) 351 0 0 hc_e (g 27 12)).2.2 ∧ 0 ≤ u 27 12 ∧ u 27 12 ≤ 65535)) ([Value.ref h0] : List Value).toArray s 0 0 (hp_A B)) (F0 m 188 ls [.int w127]) := by
                intro w127 H locs ls iv129 iv130 hJ hl
                refine lv_istore (lv' := [(5, .int w127), (0, .ref h0), (1, .int x51), (2, .int v17), (3, .int x37), (4, .int x50)]) hx hb dX7_parse_188 hl (by decide) rfl (fun ls hl => ?_)
                refine lv_iload hx hb dX7_parse_190 (lv_at hl 0 rfl) ?_
                refine hq_if_ne (tgt := 197) hx hb dX7_parse_192 (by decide) (fun c131 => ?_) (fun c131 => ?_)
                · have hws : ¬ hm_ws x37.toInt x50.toInt := by
                    rcases iv130 with h9 | h9
                    · exfalso; omega
                    · exact h9.2
                  refine lv_iload_n hx hb dX7_parse_197 rfl (lv_at hl 4 rfl) ?_
                  refine he_calli (va_runS (As := [.int x37]) (rest := []) ⟨hx, hb, hml, hown, hts⟩ (e_X7_isMore l dC dI dA κ B g18 x37) (va_cwS 1 hts gX7_parse_X7_isMore rfl rfl rfl (by decide +kernel) ⟨Nat.le_of_ble_eq_true rfl, Nat.le_of_ble_eq_true rfl⟩) (he_preS [.int x37] hK hN hW hJ) rfl rfl hl.1 rfl (lv_room (Nat.le_of_ble_eq_true rfl)) dX7_parse_198 ⟨Nat.zero_le _, Nat.zero_le _⟩) hJ (fun x133 g132 H locs hp hJ => ?_)
                  obtain ⟨rfl, f134⟩ := hp
                  refine hq_if_eq (tgt := 219) hx hb dX7_parse_201 (by decide) (fun c135 => ?_) (fun c135 => ?_)
                  · have hdu : ¬ hm_du x37.toInt (g18 30 (108 + x37.toInt.toNat)) := fun h9 => by unfold hm_du at h9; omega
                    exact ct61  _ _ ls iv129 hws hdu hJ (lv_sub hl [1, 2, 3, 4, 5] rfl)
                  · refine lv_aload_n hx hb dX7_parse_204 rfl (lv_at hl 1 rfl) ?_
                    refine he_getr (C := RX7) (T := TX7) (N := 24) (ci := 7) (kd := 11) hx hb hts iX7_parse_X7 hown hK hJ k0 rfl rfl 18 (by decide) (hts (.fieldLink RX7 61 "NeighborBookModel" "sizes" "[I") (List.mem_of_getElem? (i := 1) rfl)) (fun _ h9 => h9) rfl dX7_parse_205 (fun b136 kb136 => ?_)
                    refine hq_bipush hx hb dX7_parse_208 (by decide) (fun z137 ez137 => ?_)
                    refine lv_iload_n hx hb dX7_parse_210 rfl (lv_at hl 4 rfl) ?_
                    refine hq_iadd hx hb dX7_parse_211 (by omega) (by omega) (fun x138 ex138 => ?_)
                    refine he_iald (kd := 30) (n := 117) hx hb hK hJ kb136 rfl (by omega) (by omega) (sp := (10, 60)) rfl rfl dX7_parse_212 (fun x139 ex139 => ?_)
                    have ex139 : x139.toInt = g18 30 x138.toInt.toNat ∧ -1 ≤ x139.toInt ∧ x139.toInt ≤ 60 := ex139
                    refine hq_iconst hx hb dX7_parse_213 (by decide) (by decide) (fun z140 ez140 => ?_)
                    refine hq_icmp_eq (tgt := 219) hx hb dX7_parse_214 (by decide) (fun c141 => ?_) (fun c141 => ?_)
                    · have hdz : g18 30 (108 + x37.toInt.toNat) = -1 := by
                        rw [show 108 + x37.toInt.toNat = x138.toInt.toNat by omega]
                        omega
                      have hdu : ¬ hm_du x37.toInt (g18 30 (108 + x37.toInt.toNat)) := fun h9 => h9.2.2 hdz
                      exact ct61  _ _ ls iv129 hws hdu hJ (lv_sub hl [1, 2, 3, 4, 5] rfl)
                    · have hdp : g18 30 (108 + x37.toInt.toNat) ≠ -1 := by
                        rw [show 108 + x37.toInt.toNat = x138.toInt.toNat by omega]
                        omega
                      refine hq_iconst hx hb dX7_parse_217 (by decide) (by decide) (fun z142 ez142 => ?_)
                      have hR : (z142.toInt = 0 ↔ (hq_P (g 38) (g 11 1) 351 0 0 hc_e (g 27 12)).1 = true) ∧ 0 ≤ z142.toInt ∧ hm_con g18 12 = (hq_P (g 38) (g 11 1) 351 0 0 hc_e (g 27 12)).2.1 ∧ g18 27 12 = (hq_P (g 38) (g 11 1) 351 0 0 hc_e (g 27 12)).2.2 := by
                        rw [← iv27, hq_P_bad (by rw [hty, hnn, hm_con_1 (by omega), show 9 * 12 + x37.toInt.toNat = 108 + x37.toInt.toNat by omega]; exact hm_no4 (by omega) ⟨by omega, by omega, hdp⟩)]
                        exact ⟨⟨fun h9 => absurd h9 (by omega), fun h9 => by cases h9⟩, by omega, rfl, rfl⟩
                      exact he_iret hx hb hK hN hW hlocks hJ hr ⟨iv21, hR.1, hR.2.1, hR.2.2.1, hR.2.2.2, by omega, by omega⟩ dX7_parse_218
                · have hwsb : hm_ws x37.toInt x50.toInt := by
                    rcases iv130 with h9 | h9
                    · exact h9.2
                    · exfalso; omega
                  refine hq_iconst hx hb dX7_parse_195 (by decide) (by decide) (fun z143 ez143 => ?_)
                  have hR : (z143.toInt = 0 ↔ (hq_P (g 38) (g 11 1) 351 0 0 hc_e (g 27 12)).1 = true) ∧ 0 ≤ z143.toInt ∧ hm_con g18 12 = (hq_P (g 38) (g 11 1) 351 0 0 hc_e (g 27 12)).2.1 ∧ g18 27 12 = (hq_P (g 38) (g 11 1) 351 0 0 hc_e (g 27 12)).2.2 := by
                    rw [← iv27, hq_P_bad (by rw [hty, hnn]; exact hm_no2 (by omega) (by omega) hwsb)]
                    exact ⟨⟨fun h9 => absurd h9 (by omega), fun h9 => by cases h9⟩, by omega, rfl, rfl⟩
                  exact he_iret hx hb hK hN hW hlocks hJ hr ⟨iv21, hR.1, hR.2.1, hR.2.2.1, hR.2.2.2, by omega, by omega⟩ dX7_parse_196
              have ct144 : ∀ (H : Heap) (locs : List Loc) (ls : Array Slot), (hm_ord v17.toInt x37.toInt) → he_J dC dI dA κ B g18 s.heap H locs → lv_has ls 7 [(0, .ref h0), (1, .int x51), (2, .int v17), (3, .int x37), (4, .int x50)] → W p l e (headSpec wsX7_parse ({ frames := 1, cells := 0, slots := 0, locals := 20 } : Room)).room s m ([Value.ref h0] : List Value).toArray below meth c H locs 0 0 (MQ below (he_Qi dC dI dA κ B (fun r u => hg_Q (fun a b => (a = 27 ∧ b = 12) ∨ (a = 30 ∧ 108 ≤ b ∧ b < 117) ∨ (a = 29 ∧ 6480 ≤ b ∧ b < 7020)) g u ∧ (r.toInt = 0 ↔ (hq_P (g 38) (g 11 1) 351 0 0 hc_e (g 27 12)).1 = true) ∧ 0 ≤ r.toInt ∧ hm_con u 12 = (hq_P (g 38) (g 11 1) 351 0 0 hc_e (g 27 12)).2.1 ∧ u 27 12 = (hq_P (g 38) (g 11 1) 351 0 0 hc_e (g 27 12)).2.2 ∧ 0 ≤ u 27 12 ∧ u 27 12 ≤ 65535)) ([Value.ref h0] : List Value).toArray s 0 0 (hp_A B)) (F0 m 108 ls []) := by
                intro  H locs ls iv145 hJ hl
                refine lv_iload_n hx hb dX7_parse_108 rfl (lv_at hl 3 rfl) ?_
                refine hq_if_ne (tgt := 125) hx hb dX7_parse_109 (by decide) (fun c146 => ?_) (fun c146 => ?_)
                · refine lv_iload_n hx hb dX7_parse_125 rfl (lv_at hl 3 rfl) ?_
                  refine hq_iconst hx hb dX7_parse_126 (by decide) (by decide) (fun z147 ez147 => ?_)
                  refine hq_icmp_ge (tgt := 151) hx hb dX7_parse_127 (by decide) (fun c148 => ?_) (fun c148 => ?_)
                  · refine lv_iload_n hx hb dX7_parse_151 rfl (lv_at hl 3 rfl) ?_
                    refine hq_iconst hx hb dX7_parse_152 (by decide) (by decide) (fun z149 ez149 => ?_)
                    refine hq_icmp_ne (tgt := 170) hx hb dX7_parse_153 (by decide) (fun c150 => ?_) (fun c150 => ?_)
                    · refine lv_iload_n hx hb dX7_parse_170 rfl (lv_at hl 3 rfl) ?_
                      refine hq_bipush hx hb dX7_parse_171 (by decide) (fun z151 ez151 => ?_)
                      refine hq_icmp_gt (tgt := 183) hx hb dX7_parse_173 (by decide) (fun c152 => ?_) (fun c152 => ?_)
                      · refine hq_iconst hx hb dX7_parse_183 (by decide) (by decide) (fun z153 ez153 => ?_)
                        refine lv_goto (tgt := 188) hx hb dX7_parse_184 (by decide) ?_
                        exact ct128 z153 _ _ ls iv145 (by unfold hm_wb hm_ws; omega) hJ (lv_sub hl [0, 1, 2, 3, 4] rfl)
                      · refine lv_iload hx hb dX7_parse_176 (lv_at hl 4 rfl) ?_
                        refine hq_bipush hx hb dX7_parse_178 (by decide) (fun z154 ez154 => ?_)
                        refine hq_icmp_gt (tgt := 187) hx hb dX7_parse_180 (by decide) (fun c155 => ?_) (fun c155 => ?_)
                        · refine hq_iconst hx hb dX7_parse_187 (by decide) (by decide) (fun z156 ez156 => ?_)
                          exact ct128 z156 _ _ ls iv145 (by unfold hm_wb hm_ws; omega) hJ (lv_sub hl [0, 1, 2, 3, 4] rfl)
                        · refine hq_iconst hx hb dX7_parse_183 (by decide) (by decide) (fun z157 ez157 => ?_)
                          refine lv_goto (tgt := 188) hx hb dX7_parse_184 (by decide) ?_
                          exact ct128 z157 _ _ ls iv145 (by unfold hm_wb hm_ws; omega) hJ (lv_sub hl [0, 1, 2, 3, 4] rfl)
                    · refine lv_iload hx hb dX7_parse_156 (lv_at hl 4 rfl) ?_
                      refine hq_iconst hx hb dX7_parse_158 (by decide) (by decide) (fun z158 ez158 => ?_)
                      refine hq_icmp_lt (tgt := 166) hx hb dX7_parse_159 (by decide) (fun c159 => ?_) (fun c159 => ?_)
                      · refine hq_iconst hx hb dX7_parse_166 (by decide) (by decide) (fun z160 ez160 => ?_)
                        refine lv_goto (tgt := 188) hx hb dX7_parse_167 (by decide) ?_
                        exact ct128 z160 _ _ ls iv145 (by unfold hm_wb hm_ws; omega) hJ (lv_sub hl [0, 1, 2, 3, 4] rfl)
                      · refine hq_iconst hx hb dX7_parse_162 (by decide) (by decide) (fun z161 ez161 => ?_)
                        refine lv_goto (tgt := 188) hx hb dX7_parse_163 (by decide) ?_
                        exact ct128 z161 _ _ ls iv145 (by unfold hm_wb hm_ws; omega) hJ (lv_sub hl [0, 1, 2, 3, 4] rfl)
                  · refine lv_iload hx hb dX7_parse_130 (lv_at hl 4 rfl) ?_
                    refine hq_iconst hx hb dX7_parse_132 (by decide) (by decide) (fun z162 ez162 => ?_)
                    refine hq_icmp_lt (tgt := 147) hx hb dX7_parse_133 (by decide) (fun c163 => ?_) (fun c163 => ?_)
                    · refine hq_iconst hx hb dX7_parse_147 (by decide) (by decide) (fun z164 ez164 => ?_)
                      refine lv_goto (tgt := 188) hx hb dX7_parse_148 (by decide) ?_
                      exact ct128 z164 _ _ ls iv145 (by unfold hm_wb hm_ws; omega) hJ (lv_sub hl [0, 1, 2, 3, 4] rfl)
                    · refine lv_iload hx hb dX7_parse_136 (lv_at hl 4 rfl) ?_
                      refine hq_bipush hx hb dX7_parse_138 (by decide) (fun z165 ez165 => ?_)
                      refine hq_icmp_gt (tgt := 147) hx hb dX7_parse_140 (by decide) (fun c166 => ?_) (fun c166 => ?_)
                      · refine hq_iconst hx hb dX7_parse_147 (by decide) (by decide) (fun z167 ez167 => ?_)
                        refine lv_goto (tgt := 188) hx hb dX7_parse_148 (by decide) ?_
                        exact ct128 z167 _ _ ls iv145 (by unfold hm_wb hm_ws; omega) hJ (lv_sub hl [0, 1, 2, 3, 4] rfl)
                      · refine hq_iconst hx hb dX7_parse_143 (by decide) (by decide) (fun z168 ez168 => ?_)
                        refine lv_goto (tgt := 188) hx hb dX7_parse_144 (by decide) ?_
                        exact ct128 z168 _ _ ls iv145 (by unfold hm_wb hm_ws; omega) hJ (lv_sub hl [0, 1, 2, 3, 4] rfl)
                · refine lv_iload hx hb dX7_parse_112 (lv_at hl 4 rfl) ?_
                  refine hq_if_ne (tgt := 121) hx hb dX7_parse_114 (by decide) (fun c169 => ?_) (fun c169 => ?_)
                  · refine hq_iconst hx hb dX7_parse_121 (by decide) (by decide) (fun z170 ez170 => ?_)
                    refine lv_goto (tgt := 188) hx hb dX7_parse_122 (by decide) ?_
                    exact ct128 z170 _ _ ls iv145 (by unfold hm_wb hm_ws; omega) hJ (lv_sub hl [0, 1, 2, 3, 4] rfl)
                  · refine hq_iconst hx hb dX7_parse_117 (by decide) (by decide) (fun z171 ez171 => ?_)
                    refine lv_goto (tgt := 188) hx hb dX7_parse_118 (by decide) ?_
                    exact ct128 z171 _ _ ls iv145 (by unfold hm_wb hm_ws; omega) hJ (lv_sub hl [0, 1, 2, 3, 4] rfl)
              refine lv_iload_n hx hb dX7_parse_81 rfl (lv_at hl 4 rfl) ?_
              refine hq_iconst hx hb dX7_parse_82 (by decide) (by decide) (fun z172 ez172 => ?_)
              refine hq_icmp_ge (tgt := 96) hx hb dX7_parse_83 (by decide) (fun c173 => ?_) (fun c173 => ?_)
              · refine lv_iload_n hx hb dX7_parse_96 rfl (lv_at hl 2 rfl) ?_
                refine hq_iconst hx hb dX7_parse_97 (by decide) (by decide) (fun z174 ez174 => ?_)
                refine hq_icmp_lt (tgt := 108) hx hb dX7_parse_98 (by decide) (fun c175 => ?_) (fun c175 => ?_)
                · exact ct144  _ _ ls (by unfold hm_ord; omega) hJ (lv_sub hl [3, 0, 4, 2, 1] rfl)
                · refine lv_iload_n hx hb dX7_parse_101 rfl (lv_at hl 2 rfl) ?_
                  refine hq_iconst hx hb dX7_parse_102 (by decide) (by decide) (fun z176 ez176 => ?_)
                  refine hq_icmp_gt (tgt := 108) hx hb dX7_parse_103 (by decide) (fun c177 => ?_) (fun c177 => ?_)
                  · exact ct144  _ _ ls (by unfold hm_ord; omega) hJ (lv_sub hl [3, 0, 4, 2, 1] rfl)
                  · refine hq_iconst hx hb dX7_parse_106 (by decide) (by decide) (fun z178 ez178 => ?_)
                    have hR : (z178.toInt = 0 ↔ (hq_P (g 38) (g 11 1) 351 0 0 hc_e (g 27 12)).1 = true) ∧ 0 ≤ z178.toInt ∧ hm_con g18 12 = (hq_P (g 38) (g 11 1) 351 0 0 hc_e (g 27 12)).2.1 ∧ g18 27 12 = (hq_P (g 38) (g 11 1) 351 0 0 hc_e (g 27 12)).2.2 := by
                      rw [← iv27, hq_P_bad (by rw [hty, hnn]; exact hm_no1 (by omega) (by omega) (by unfold hm_ord; omega))]
                      exact ⟨⟨fun h9 => absurd h9 (by omega), fun h9 => by cases h9⟩, by omega, rfl, rfl⟩
                    exact he_iret hx hb hK hN hW hlocks hJ hr ⟨iv21, hR.1, hR.2.1, hR.2.2.1, hR.2.2.2, by omega, by omega⟩ dX7_parse_107
              · refine lv_iload_n hx hb dX7_parse_86 rfl (lv_at hl 2 rfl) ?_
                refine lv_iload_n hx hb dX7_parse_87 rfl (lv_at hl 4 rfl) ?_
                refine hq_iconst hx hb dX7_parse_88 (by decide) (by decide) (fun z179 ez179 => ?_)
                refine hq_iadd hx hb dX7_parse_89 (by omega) (by omega) (fun x180 ex180 => ?_)
                refine hq_icmp_eq (tgt := 108) hx hb dX7_parse_90 (by decide) (fun c181 => ?_) (fun c181 => ?_)
                · exact ct144  _ _ ls (by unfold hm_ord; omega) hJ (lv_sub hl [3, 0, 4, 2, 1] rfl)
                · refine lv_goto (tgt := 106) hx hb dX7_parse_93 (by decide) ?_
                  refine hq_iconst hx hb dX7_parse_106 (by decide) (by decide) (fun z182 ez182 => ?_)
                  have hR : (z182.toInt = 0 ↔ (hq_P (g 38) (g 11 1) 351 0 0 hc_e (g 27 12)).1 = true) ∧ 0 ≤ z182.toInt ∧ hm_con g18 12 = (hq_P (g 38) (g 11 1) 351 0 0 hc_e (g 27 12)).2.1 ∧ g18 27 12 = (hq_P (g 38) (g 11 1) 351 0 0 hc_e (g 27 12)).2.2 := by
                    rw [← iv27, hq_P_bad (by rw [hty, hnn]; exact hm_no1 (by omega) (by omega) (by unfold hm_ord; omega))]
                    exact ⟨⟨fun h9 => absurd h9 (by omega), fun h9 => by cases h9⟩, by omega, rfl, rfl⟩
                  exact he_iret hx hb hK hN hW hlocks hJ hr ⟨iv21, hR.1, hR.2.1, hR.2.2.1, hR.2.2.2, by omega, by omega⟩ dX7_parse_107
            · refine hq_iconst hx hb dX7_parse_38 (by decide) (by decide) (fun z183 ez183 => ?_)
              have hR : (z183.toInt = 0 ↔ (hq_P (g 38) (g 11 1) 351 0 0 hc_e (g 27 12)).1 = true) ∧ 0 ≤ z183.toInt ∧ hm_con g18 12 = (hq_P (g 38) (g 11 1) 351 0 0 hc_e (g 27 12)).2.1 ∧ g18 27 12 = (hq_P (g 38) (g 11 1) 351 0 0 hc_e (g 27 12)).2.2 := by
                rw [← iv27, hq_P_end (by omega)]
                exact ⟨⟨fun h9 => absurd h9 (by omega), fun h9 => by cases h9⟩, by omega, rfl, rfl⟩
              exact he_iret hx hb hK hN hW hlocks hJ hr ⟨iv21, hR.1, hR.2.1, hR.2.2.1, hR.2.2.2, by omega, by omega⟩ dX7_parse_39
        exact lp19 ((701 - z14.toInt).toNat + 1) z14 z15 g3 _ _ ls iv6 (by omega) (by omega) (by omega) (by omega) (by omega) (by rw [show (351 - z15.toInt).toNat = 351 by omega, show z14.toInt.toNat = 0 by omega, show z15.toInt.toNat = 0 by omega, hce, show g3 27 12 = g 27 12 by omega]) (by omega) hJ (lv_sub hl [2, 1, 0] rfl)
      · refine lv_aload_n hx hb dX7_parse_8 rfl (lv_at hl 0 rfl) ?_
        refine he_getr (C := RX7) (T := TX7) (N := 24) (ci := 7) (kd := 11) hx hb hts iX7_parse_X7 hown hK hJ k0 rfl rfl 18 (by decide) (hts (.fieldLink RX7 61 "NeighborBookModel" "sizes" "[I") (List.mem_of_getElem? (i := 1) rfl)) (fun _ h9 => h9) rfl dX7_parse_9 (fun b184 kb184 => ?_)
        refine hq_bipush hx hb dX7_parse_12 (by decide) (fun z185 ez185 => ?_)
        refine lv_iload_n hx hb dX7_parse_14 rfl (lv_at hl 1 rfl) ?_
        refine hq_iadd hx hb dX7_parse_15 (by omega) (by omega) (fun x186 ex186 => ?_)
        refine hq_iconst hx hb dX7_parse_16 (by decide) (by decide) (fun z187 ez187 => ?_)
        refine he_iastx (kd := 30) (n := 117) hx hb hK hJ kb184 rfl (by omega) (by omega) (by decide) hW rfl (sp := (10, 60)) rfl rfl (show z187.toInt = z187.toInt ∧ -1 ≤ z187.toInt ∧ z187.toInt ≤ 60 from ⟨rfl, by omega, by omega⟩) dX7_parse_17 (fun g188 H locs eg188 ng188 hJ => ?_)
        have eg188 : g188 30 x186.toInt.toNat = z187.toInt := eg188
        have P189 : hg_Q (fun a b => (a = 27 ∧ b = 12) ∨ (a = 30 ∧ 108 ≤ b ∧ b < 117) ∨ (a = 29 ∧ 6480 ≤ b ∧ b < 7020)) g g188 := hg_Q.put iv6 ng188 (show (30 = 27 ∧ x186.toInt.toNat = 12) ∨ (30 = 30 ∧ 108 ≤ x186.toInt.toNat ∧ x186.toInt.toNat < 117) ∨ (30 = 29 ∧ 6480 ≤ x186.toInt.toNat ∧ x186.toInt.toNat < 7020) from by omega)
        have qt190 : g188 27 12 = g3 27 12 := ng188 27 12 (by omega)
        have qt191 : g188 11 1 = g3 11 1 := ng188 11 1 (by omega)
        refine hq_iinc (k := 1) (lv' := fun (z9 : Int32) => [(1, .int z9), (0, .ref h0)]) hx hb dX7_parse_18 hl rfl (by decide) (by decide) (by omega) (by omega) (by decide) (fun _ => rfl) (fun x192 ls ex192 hl => ?_)
        have hl : lv_has ls 7 [(1, .int x192), (0, .ref h0)] := hl
        refine lv_goto (tgt := 2) hx hb dX7_parse_21 (by decide) ?_
        exact ihlp4 x192 g188 _ _ ls P189 (by omega) (by omega) (by omega) (by omega) (fun t ht => by
          by_cases h9 : t = v2.toInt.toNat
          · rw [h9, show 108 + v2.toInt.toNat = x186.toInt.toNat by omega, eg188]; omega
          · rw [ng188 30 (108 + t) (by omega)]; exact iv11 t (by omega)) (by omega) hJ (lv_sub hl [1, 0] rfl)
  exact lp4 ((10 - z1.toInt).toNat + 1) z1 g _ _ ls hg_Q.rf (by omega) (by omega) (by omega) (by omega) (fun t ht => absurd ht (by omega)) (by omega) hJ (lv_sub hl [1, 0] rfl)
