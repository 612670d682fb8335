theorem iX7_parse_X7 : ∀ w ∈ wsX70, w ∈ wsX7_parse := fun _ h => List.mem_cons_of_mem _ (List.mem_append_right _ h)
set_option maxRecDepth 100000 in
set_option maxHeartbeats 4000000 in
theorem e_X7_parse (l : Launch) (dC : Nat → ClassId) (dI : Nat → Nat → Nat) (dA : Nat → ClassId) (κ : Nat → Nat) (B : Nat) (g : Nat → Nat → Int) (h0 : Nat) (k0 : κ h0 = 11) (hl12 : 0 ≤ g 27 12 ∧ g 27 12 ≤ 65535) : Met l yX7_parse wsX7_parse ({ frames := 1, cells := 0, slots := 0, locals := 20 } : Room) (he_Pre dC dI dA κ B g [Value.ref h0]) (he_Qi dC dI dA κ B (fun r u => hg_Q (fun a b => (a = 27 ∧ b = 12) ∨ (a = 30 ∧ 108 ≤ b ∧ b < 117) ∨ (a = 29 ∧ 6480 ≤ b ∧ b < 7020)) g u ∧ 0 ≤ u 27 12 ∧ u 27 12 ≤ 65535)) 0 0 (hp_A B) := by
  refine Met.ofW (cc := cX7_parse) (maxL := 7) (ret := (some .int)) (by decide) rfl ?_
  intro p e s m args below meth c s₁ Bd hml hv
  obtain ⟨rfl, hK, hN, hW, hF⟩ := hv
  have hx := Bd.exec
  have hb := Bd.bytes
  have hr := Bd.returns
  have hts := atoms_spec (ws := wsX7_parse) Bd.pre
  have hown : s.vm.findClass RX7 = some m.cls := findClass_of_methodNamed Bd.named
  have hlocks := Bd.notSynchronized
  have hJ : he_J dC dI dA κ B g s.heap s.heap [] := ⟨hF, va_S.rf⟩
  have hl := lv_entry ([Value.ref h0]) (n := 7) (Nat.le_of_ble_eq_true rfl)
  rw [lg_entry_eq]
  generalize (lg_sl ([Value.ref h0]) ++ List.replicate (7 - (lg_sl ([Value.ref h0])).length) Slot.unset).toArray = ls at hl ⊢
  have hl : lv_has ls 7 [(0, .ref h0)] := hl
  refine hq_iconst hx hb dX7_parse_0 (by decide) (by decide) (fun z1 ez1 => ?_)
  refine lv_istore_n (lv' := [(1, .int z1), (0, .ref h0)]) hx hb dX7_parse_1 rfl hl (by decide) rfl (fun ls hl => ?_)
  have lp4 : ∀ (nlp4 : Nat) (v2 : Int32) (g3 : Nat → Nat → Int) (H : Heap) (locs : List Loc) (ls : Array Slot), (hg_Q (fun a b => (a = 27 ∧ b = 12) ∨ (a = 30 ∧ 108 ≤ b ∧ b < 117) ∨ (a = 29 ∧ 6480 ≤ b ∧ b < 7020)) g g3) → (0 ≤ v2.toInt) → (v2.toInt ≤ 9) → (0 ≤ g3 27 12 ∧ g3 27 12 ≤ 65535) → (10 - v2.toInt < (nlp4 : Int)) → he_J dC dI dA κ B g3 s.heap H locs → lv_has ls 7 [(0, .ref h0), (1, .int v2)] → W p l e (headSpec wsX7_parse ({ frames := 1, cells := 0, slots := 0, locals := 20 } : Room)).room s m ([Value.ref h0] : List Value).toArray below meth c H locs 0 0 (MQ below (he_Qi dC dI dA κ B (fun r u => hg_Q (fun a b => (a = 27 ∧ b = 12) ∨ (a = 30 ∧ 108 ≤ b ∧ b < 117) ∨ (a = 29 ∧ 6480 ≤ b ∧ b < 7020)) g u ∧ 0 ≤ u 27 12 ∧ u 27 12 ≤ 65535)) ([Value.ref h0] : List Value).toArray s 0 0 (hp_A B)) (F0 m 2 ls []) := by
    intro nlp4
    induction nlp4 with
    | zero => intro v2 g3 H locs ls iv6 iv7 iv8 iv9 hm5 hJ hl; exact absurd hm5 (by omega)
    | succ nlp4 ihlp4 =>
      intro v2 g3 H locs ls iv6 iv7 iv8 iv9 hm5 hJ hl
      refine lv_iload_n hx hb dX7_parse_2 rfl (lv_at hl 1 rfl) ?_
      refine hq_bipush hx hb dX7_parse_3 (by decide) (fun z10 ez10 => ?_)
      refine hq_icmp_ge (tgt := 24) hx hb dX7_parse_5 (by decide) (fun c11 => ?_) (fun c11 => ?_)
      · refine hq_iconst hx hb dX7_parse_24 (by decide) (by decide) (fun z12 ez12 => ?_)
        refine lv_istore_n (lv' := [(1, .int z12), (0, .ref h0)]) hx hb dX7_parse_25 rfl hl (by decide) rfl (fun ls hl => ?_)
        refine hq_iconst hx hb dX7_parse_26 (by decide) (by decide) (fun z13 ez13 => ?_)
        refine lv_istore_n (lv' := [(2, .int z13), (1, .int z12), (0, .ref h0)]) hx hb dX7_parse_27 rfl hl (by decide) rfl (fun ls hl => ?_)
        have lp17 : ∀ (nlp17 : Nat) (v14 : Int32) (v15 : Int32) (g16 : Nat → Nat → Int) (H : Heap) (locs : List Loc) (ls : Array Slot), (hg_Q (fun a b => (a = 27 ∧ b = 12) ∨ (a = 30 ∧ 108 ≤ b ∧ b < 117) ∨ (a = 29 ∧ 6480 ≤ b ∧ b < 7020)) g g16) → (0 ≤ v14.toInt) → (v14.toInt ≤ 700) → (0 ≤ g16 27 12 ∧ g16 27 12 ≤ 65535) → (701 - v14.toInt < (nlp17 : Int)) → he_J dC dI dA κ B g16 s.heap H locs → lv_has ls 7 [(0, .ref h0), (1, .int v14), (2, .int v15)] → W p l e (headSpec wsX7_parse ({ frames := 1, cells := 0, slots := 0, locals := 20 } : Room)).room s m ([Value.ref h0] : List Value).toArray below meth c H locs 0 0 (MQ below (he_Qi dC dI dA κ B (fun r u => hg_Q (fun a b => (a = 27 ∧ b = 12) ∨ (a = 30 ∧ 108 ≤ b ∧ b < 117) ∨ (a = 29 ∧ 6480 ≤ b ∧ b < 7020)) g u ∧ 0 ≤ u 27 12 ∧ u 27 12 ≤ 65535)) ([Value.ref h0] : List Value).toArray s 0 0 (hp_A B)) (F0 m 28 ls []) := by
          intro nlp17
          induction nlp17 with
          | zero => intro v14 v15 g16 H locs ls iv19 iv20 iv21 iv22 hm18 hJ hl; exact absurd hm18 (by omega)
          | succ nlp17 ihlp17 =>
            intro v14 v15 g16 H locs ls iv19 iv20 iv21 iv22 hm18 hJ hl
            refine lv_iload_n hx hb dX7_parse_28 rfl (lv_at hl 1 rfl) ?_
            refine hq_iconst hx hb dX7_parse_29 (by decide) (by decide) (fun z23 ez23 => ?_)
            refine hq_iadd hx hb dX7_parse_30 (by omega) (by omega) (fun x24 ex24 => ?_)
            refine lv_aload_n hx hb dX7_parse_31 rfl (lv_at hl 0 rfl) ?_
            refine he_geti (C := RX7) (T := TX7) (N := 24) (ci := 7) (kd := 11) hx hb hts iX7_parse_X7 hown hK hJ k0 rfl rfl 1 (by decide) (hts (.fieldLink RX7 70 "NeighborBookModel" "typedSize" "I") (List.mem_of_getElem? (i := 2) rfl)) (fun _ h9 => h9) rfl rfl dX7_parse_32 (fun x25 ex25 => ?_)
            have ex25 : x25.toInt = g16 11 1 ∧ 0 ≤ x25.toInt ∧ x25.toInt ≤ 700 := ex25
            refine hq_icmp_le (tgt := 40) hx hb dX7_parse_35 (by decide) (fun c26 => ?_) (fun c26 => ?_)
            · refine lv_aload_n hx hb dX7_parse_40 rfl (lv_at hl 0 rfl) ?_
              refine he_getr (C := RX7) (T := TX7) (N := 24) (ci := 7) (kd := 11) hx hb hts iX7_parse_X7 hown hK hJ k0 rfl rfl 0 (by decide) (hts (.fieldLink RX7 7 "NeighborBookModel" "typed" "[B") (List.mem_of_getElem? (i := 3) rfl)) (fun _ h9 => h9) rfl dX7_parse_41 (fun b27 kb27 => ?_)
              refine lv_iload_n hx hb dX7_parse_44 rfl (lv_at hl 1 rfl) ?_
              refine he_bald (kd := 38) (n := 700) hx hb hK hJ kb27 rfl (by omega) (by omega) (sp := (11, 0)) rfl rfl dX7_parse_45 (fun x28 ex28 => ?_)
              have ex28 : x28.toInt = g16 38 v14.toInt.toNat ∧ -128 ≤ x28.toInt ∧ x28.toInt ≤ 127 := ex28
              refine hq_iconst hx hb dX7_parse_46 (by decide) (by decide) (fun z29 ez29 => ?_)
              refine hq_ishrU hx hb dX7_parse_47 (fun x30 => ?_)
              refine hq_bipush hx hb dX7_parse_48 (by decide) (fun z31 ez31 => ?_)
              refine hq_iandm (k := 7) hx hb dX7_parse_50 ez31 (by decide) (fun x32 ex32 => ?_)
              refine lv_istore_n (lv' := [(3, .int x32), (0, .ref h0), (1, .int v14), (2, .int v15)]) hx hb dX7_parse_51 rfl hl (by decide) rfl (fun ls hl => ?_)
              refine lv_aload_n hx hb dX7_parse_52 rfl (lv_at hl 1 rfl) ?_
              refine he_getr (C := RX7) (T := TX7) (N := 24) (ci := 7) (kd := 11) hx hb hts iX7_parse_X7 hown hK hJ k0 rfl rfl 0 (by decide) (hts (.fieldLink RX7 7 "NeighborBookModel" "typed" "[B") (List.mem_of_getElem? (i := 3) rfl)) (fun _ h9 => h9) rfl dX7_parse_53 (fun b33 kb33 => ?_)
              refine lv_iload_n hx hb dX7_parse_56 rfl (lv_at hl 2 rfl) ?_
              refine he_bald (kd := 38) (n := 700) hx hb hK hJ kb33 rfl (by omega) (by omega) (sp := (11, 0)) rfl rfl dX7_parse_57 (fun x34 ex34 => ?_)
              have ex34 : x34.toInt = g16 38 v14.toInt.toNat ∧ -128 ≤ x34.toInt ∧ x34.toInt ≤ 127 := ex34
              refine hq_iconst hx hb dX7_parse_58 (by decide) (by decide) (fun z35 ez35 => ?_)
              refine hq_iandm (k := 1) hx hb dX7_parse_59 ez35 (by decide) (fun x36 ex36 => ?_)
              refine hq_bipush hx hb dX7_parse_60 (by decide) (fun z37 ez37 => ?_)
              refine hq_ishl8e hx hb dX7_parse_62 ez37 (by omega) (by omega) (fun x38 ex38 => ?_)
              refine lv_aload_n hx hb dX7_parse_63 rfl (lv_at hl 1 rfl) ?_
              refine he_getr (C := RX7) (T := TX7) (N := 24) (ci := 7) (kd := 11) hx hb hts iX7_parse_X7 hown hK hJ k0 rfl rfl 0 (by decide) (hts (.fieldLink RX7 7 "NeighborBookModel" "typed" "[B") (List.mem_of_getElem? (i := 3) rfl)) (fun _ h9 => h9) rfl dX7_parse_64 (fun b39 kb39 => ?_)
              refine lv_iload_n hx hb dX7_parse_67 rfl (lv_at hl 2 rfl) ?_
              refine hq_iconst hx hb dX7_parse_68 (by decide) (by decide) (fun z40 ez40 => ?_)
              refine hq_iadd hx hb dX7_parse_69 (by omega) (by omega) (fun x41 ex41 => ?_)
              refine he_bald (kd := 38) (n := 700) hx hb hK hJ kb39 rfl (by omega) (by omega) (sp := (11, 0)) rfl rfl dX7_parse_70 (fun x42 ex42 => ?_)
              have ex42 : x42.toInt = g16 38 x41.toInt.toNat ∧ -128 ≤ x42.toInt ∧ x42.toInt ≤ 127 := ex42
              refine hq_sipush hx hb dX7_parse_71 (by decide) (fun z43 ez43 => ?_)
              refine hq_iandm (k := 8) hx hb dX7_parse_74 ez43 (by decide) (fun x44 ex44 => ?_)
              refine hq_ior16 hx hb dX7_parse_75 (m9 := x36.toInt) (by omega) (by omega) (by omega) (by omega) (by omega) (fun x45 ex45 => ?_)
              refine lv_istore (lv' := [(4, .int x45), (3, .int x32), (0, .ref h0), (1, .int v14), (2, .int v15)]) hx hb dX7_parse_76 hl (by decide) rfl (fun ls hl => ?_)
              refine hq_iinc (k := 3) (lv' := fun (z9 : Int32) => [(1, .int z9), (4, .int x45), (3, .int x32), (0, .ref h0), (2, .int v15)]) hx hb dX7_parse_78 hl rfl (by decide) (by decide) (by omega) (by omega) (by decide) (fun _ => rfl) (fun x46 ls ex46 hl => ?_)
              have hl : lv_has ls 7 [(1, .int x46), (4, .int x45), (3, .int x32), (0, .ref h0), (2, .int v15)] := hl
              have ct48 : ∀ (g47 : Nat → Nat → Int) (H : Heap) (locs : List Loc) (ls : Array Slot), (hg_Q (fun a b => (a = 27 ∧ b = 12) ∨ (a = 30 ∧ 108 ≤ b ∧ b < 117) ∨ (a = 29 ∧ 6480 ≤ b ∧ b < 7020)) g g47) → (x46.toInt + x45.toInt ≤ g47 11 1) → (0 ≤ g47 27 12 ∧ g47 27 12 ≤ 65535) → (g47 11 1 ≤ 700) → he_J dC dI dA κ B g47 s.heap H locs → lv_has ls 7 [(0, .ref h0), (1, .int x46), (2, .int v15), (3, .int x32), (4, .int x45)] → W p l e (headSpec wsX7_parse ({ frames := 1, cells := 0, slots := 0, locals := 20 } : Room)).room s m ([Value.ref h0] : List Value).toArray below meth c H locs 0 0 (MQ below (he_Qi dC dI dA κ B (fun r u => hg_Q (fun a b => (a = 27 ∧ b = 12) ∨ (a = 30 ∧ 108 ≤ b ∧ b < 117) ∨ (a = 29 ∧ 6480 ≤ b ∧ b < 7020)) g u ∧ 0 ≤ u 27 12 ∧ u 27 12 ≤ 65535)) ([Value.ref h0] : List Value).toArray s 0 0 (hp_A B)) (F0 m 336 ls []) := by
                intro g47 H locs ls iv49 iv50 iv51 iv52 hJ hl
                refine lv_iload_n hx hb dX7_parse_336 rfl (lv_at hl 1 rfl) ?_
                refine lv_iload hx hb dX7_parse_337 (lv_at hl 4 rfl) ?_
                refine hq_iadd hx hb dX7_parse_339 (by omega) (by omega) (fun x53 ex53 => ?_)
                refine lv_istore_n (lv' := [(1, .int x53), (0, .ref h0), (2, .int v15), (3, .int x32), (4, .int x45)]) hx hb dX7_parse_340 rfl hl (by decide) rfl (fun ls hl => ?_)
                refine hq_iincU (k := 2) (lv' := fun (z9 : Int32) => [(2, .int z9), (1, .int x53), (0, .ref h0), (3, .int x32), (4, .int x45)]) hx hb dX7_parse_341 hl rfl (by decide) (fun _ => rfl) (fun x54 ls hl => ?_)
                have hl : lv_has ls 7 [(2, .int x54), (1, .int x53), (0, .ref h0), (3, .int x32), (4, .int x45)] := hl
                refine lv_goto (tgt := 28) hx hb dX7_parse_344 (by decide) ?_
                exact ihlp17 x53 x54 g47 _ _ ls iv49 (by omega) (by omega) (by omega) (by omega) hJ (lv_sub hl [2, 1, 0] rfl)
              have ct55 : ∀ (H : Heap) (locs : List Loc) (ls : Array Slot), ((x32.toInt ≠ 3 ∧ x32.toInt ≤ 8 → x45.toInt ≤ 60) ∧ (x32.toInt = 3 → 2 ≤ x45.toInt)) → he_J dC dI dA κ B g16 s.heap H locs → lv_has ls 7 [(0, .ref h0), (1, .int x46), (2, .int v15), (3, .int x32), (4, .int x45)] → W p l e (headSpec wsX7_parse ({ frames := 1, cells := 0, slots := 0, locals := 20 } : Room)).room s m ([Value.ref h0] : List Value).toArray below meth c H locs 0 0 (MQ below (he_Qi dC dI dA κ B (fun r u => hg_Q (fun a b => (a = 27 ∧ b = 12) ∨ (a = 30 ∧ 108 ≤ b ∧ b < 117) ∨ (a = 29 ∧ 6480 ≤ b ∧ b < 7020)) g u ∧ 0 ≤ u 27 12 ∧ u 27 12 ≤ 65535)) ([Value.ref h0] : List Value).toArray s 0 0 (hp_A B)) (F0 m 219 ls []) := by
                intro  H locs ls iv56 hJ hl
                refine lv_iload_n hx hb dX7_parse_219 rfl (lv_at hl 1 rfl) ?_
                refine lv_iload hx hb dX7_parse_220 (lv_at hl 4 rfl) ?_
                refine hq_iadd hx hb dX7_parse_222 (by omega) (by omega) (fun x57 ex57 => ?_)
                refine lv_aload_n hx hb dX7_parse_223 rfl (lv_at hl 0 rfl) ?_
                refine he_geti (C := RX7) (T := TX7) (N := 24) (ci := 7) (kd := 11) hx hb hts iX7_parse_X7 hown hK hJ k0 rfl rfl 1 (by decide) (hts (.fieldLink RX7 70 "NeighborBookModel" "typedSize" "I") (List.mem_of_getElem? (i := 2) rfl)) (fun _ h9 => h9) rfl rfl dX7_parse_224 (fun x58 ex58 => ?_)
                have ex58 : x58.toInt = g16 11 1 ∧ 0 ≤ x58.toInt ∧ x58.toInt ≤ 700 := ex58
                refine hq_icmp_le (tgt := 232) hx hb dX7_parse_227 (by decide) (fun c59 => ?_) (fun c59 => ?_)
                · refine lv_iload_n hx hb dX7_parse_232 rfl (lv_at hl 3 rfl) ?_
                  refine hq_if_ne (tgt := 238) hx hb dX7_parse_233 (by decide) (fun c60 => ?_) (fun c60 => ?_)
                  · refine lv_iload_n hx hb dX7_parse_238 rfl (lv_at hl 3 rfl) ?_
                    refine hq_iconst hx hb dX7_parse_239 (by decide) (by decide) (fun z61 ez61 => ?_)
                    refine hq_icmp_ne (tgt := 279) hx hb dX7_parse_240 (by decide) (fun c62 => ?_) (fun c62 => ?_)
                    · refine lv_iload_n hx hb dX7_parse_279 rfl (lv_at hl 3 rfl) ?_
                      refine hq_bipush hx hb dX7_parse_280 (by decide) (fun z63 ez63 => ?_)
                      refine hq_icmp_ge (tgt := 336) hx hb dX7_parse_282 (by decide) (fun c64 => ?_) (fun c64 => ?_)
                      · exact ct48 g16 _ _ ls iv19 (by omega) (by omega) (by omega) hJ (lv_sub hl [0, 1, 2, 3, 4] rfl)
                      · refine lv_aload_n hx hb dX7_parse_285 rfl (lv_at hl 0 rfl) ?_
                        refine he_getr (C := RX7) (T := TX7) (N := 24) (ci := 7) (kd := 11) hx hb hts iX7_parse_X7 hown hK hJ k0 rfl rfl 18 (by decide) (hts (.fieldLink RX7 61 "NeighborBookModel" "sizes" "[I") (List.mem_of_getElem? (i := 1) rfl)) (fun _ h9 => h9) rfl dX7_parse_286 (fun b65 kb65 => ?_)
                        refine hq_bipush hx hb dX7_parse_289 (by decide) (fun z66 ez66 => ?_)
                        refine lv_iload_n hx hb dX7_parse_291 rfl (lv_at hl 3 rfl) ?_
                        refine hq_iadd hx hb dX7_parse_292 (by omega) (by omega) (fun x67 ex67 => ?_)
                        refine lv_iload hx hb dX7_parse_293 (lv_at hl 4 rfl) ?_
                        refine he_iastx (kd := 30) (n := 117) hx hb hK hJ kb65 rfl (by omega) (by omega) (by decide) hW rfl (sp := (10, 60)) rfl rfl (show x45.toInt = x45.toInt ∧ -1 ≤ x45.toInt ∧ x45.toInt ≤ 60 from ⟨rfl, by omega, by omega⟩) dX7_parse_295 (fun g68 H locs eg68 ng68 hJ => ?_)
                        have eg68 : g68 30 x67.toInt.toNat = x45.toInt := eg68
                        have P69 : hg_Q (fun a b => (a = 27 ∧ b = 12) ∨ (a = 30 ∧ 108 ≤ b ∧ b < 117) ∨ (a = 29 ∧ 6480 ≤ b ∧ b < 7020)) g g68 := hg_Q.put iv19 ng68 (show (30 = 27 ∧ x67.toInt.toNat = 12) ∨ (30 = 30 ∧ 108 ≤ x67.toInt.toNat ∧ x67.toInt.toNat < 117) ∨ (30 = 29 ∧ 6480 ≤ x67.toInt.toNat ∧ x67.toInt.toNat < 7020) from by omega)
                        have qt70 : g68 27 12 = g16 27 12 := ng68 27 12 (by omega)
                        have qt71 : g68 11 1 = g16 11 1 := ng68 11 1 (by omega)
                        refine hq_iconst hx hb dX7_parse_296 (by decide) (by decide) (fun z72 ez72 => ?_)
                        refine lv_istore (lv' := [(6, .int z72), (0, .ref h0), (1, .int x46), (2, .int v15), (3, .int x32), (4, .int x45)]) hx hb dX7_parse_297 hl (by decide) rfl (fun ls hl => ?_)
                        have lp75 : ∀ (nlp75 : Nat) (v73 : Int32) (g74 : Nat → Nat → Int) (H : Heap) (locs : List Loc) (ls : Array Slot), (hg_Q (fun a b => (a = 27 ∧ b = 12) ∨ (a = 30 ∧ 108 ≤ b ∧ b < 117) ∨ (a = 29 ∧ 6480 ≤ b ∧ b < 7020)) g g74) → (0 ≤ v73.toInt) → (v73.toInt ≤ 60) → (0 ≤ g74 27 12 ∧ g74 27 12 ≤ 65535) → (x46.toInt + x45.toInt ≤ g74 11 1) → (g74 11 1 ≤ 700) → (61 - v73.toInt < (nlp75 : Int)) → he_J dC dI dA κ B g74 s.heap H locs → lv_has ls 7 [(0, .ref h0), (1, .int x46), (2, .int v15), (3, .int x32), (4, .int x45), (6, .int v73)] → W p l e (headSpec wsX7_parse ({ frames := 1, cells := 0, slots := 0, locals := 20 } : Room)).room s m ([Value.ref h0] : List Value).toArray below meth c H locs 0 0 (MQ below (he_Qi dC dI dA κ B (fun r u => hg_Q (fun a b => (a = 27 ∧ b = 12) ∨ (a = 30 ∧ 108 ≤ b ∧ b < 117) ∨ (a = 29 ∧ 6480 ≤ b ∧ b < 7020)) g u ∧ 0 ≤ u 27 12 ∧ u 27 12 ≤ 65535)) ([Value.ref h0] : List Value).toArray s 0 0 (hp_A B)) (F0 m 299 ls []) := by
                          intro nlp75
                          induction nlp75 with
                          | zero => intro v73 g74 H locs ls iv77 iv78 iv79 iv80 iv81 iv82 hm76 hJ hl; exact absurd hm76 (by omega)
                          | succ nlp75 ihlp75 =>
                            intro v73 g74 H locs ls iv77 iv78 iv79 iv80 iv81 iv82 hm76 hJ hl
                            refine lv_iload hx hb dX7_parse_299 (lv_at hl 5 rfl) ?_
                            refine lv_iload hx hb dX7_parse_301 (lv_at hl 4 rfl) ?_
                            refine hq_icmp_ge (tgt := 336) hx hb dX7_parse_303 (by decide) (fun c83 => ?_) (fun c83 => ?_)
                            · exact ct48 g74 _ _ ls iv77 (by omega) (by omega) (by omega) hJ (lv_sub hl [0, 1, 2, 3, 4] rfl)
                            · refine lv_aload_n hx hb dX7_parse_306 rfl (lv_at hl 0 rfl) ?_
                              refine he_getr (C := RX7) (T := TX7) (N := 24) (ci := 7) (kd := 11) hx hb hts iX7_parse_X7 hown hK hJ k0 rfl rfl 17 (by decide) (hts (.fieldLink RX7 58 "NeighborBookModel" "bytes" "[B") (List.mem_of_getElem? (i := 5) rfl)) (fun _ h9 => h9) rfl dX7_parse_307 (fun b84 kb84 => ?_)
                              refine hq_bipush hx hb dX7_parse_310 (by decide) (fun z85 ez85 => ?_)
                              refine lv_iload_n hx hb dX7_parse_312 rfl (lv_at hl 3 rfl) ?_
                              refine hq_iadd hx hb dX7_parse_313 (by omega) (by omega) (fun x86 ex86 => ?_)
                              refine hq_bipush hx hb dX7_parse_314 (by decide) (fun z87 ez87 => ?_)
                              refine hq_imul (w := x86.toInt * 60) hx hb dX7_parse_316 (by rw [ez87]) (by omega) (by omega) (fun x88 ex88 => ?_)
                              refine lv_iload hx hb dX7_parse_317 (lv_at hl 5 rfl) ?_
                              refine hq_iadd hx hb dX7_parse_319 (by omega) (by omega) (fun x89 ex89 => ?_)
                              refine lv_aload_n hx hb dX7_parse_320 rfl (lv_at hl 0 rfl) ?_
                              refine he_getr (C := RX7) (T := TX7) (N := 24) (ci := 7) (kd := 11) hx hb hts iX7_parse_X7 hown hK hJ k0 rfl rfl 0 (by decide) (hts (.fieldLink RX7 7 "NeighborBookModel" "typed" "[B") (List.mem_of_getElem? (i := 3) rfl)) (fun _ h9 => h9) rfl dX7_parse_321 (fun b90 kb90 => ?_)
                              refine lv_iload_n hx hb dX7_parse_324 rfl (lv_at hl 1 rfl) ?_
                              refine lv_iload hx hb dX7_parse_325 (lv_at hl 5 rfl) ?_
                              refine hq_iadd hx hb dX7_parse_327 (by omega) (by omega) (fun x91 ex91 => ?_)
                              refine he_bald (kd := 38) (n := 700) hx hb hK hJ kb90 rfl (by omega) (by omega) (sp := (11, 0)) rfl rfl dX7_parse_328 (fun x92 ex92 => ?_)
                              have ex92 : x92.toInt = g74 38 x91.toInt.toNat ∧ -128 ≤ x92.toInt ∧ x92.toInt ≤ 127 := ex92
                              refine he_bastx (kd := 29) (n := 7020) hx hb hK hJ kb84 rfl (by omega) (by omega) (by decide) hW rfl rfl (by omega) (by omega) dX7_parse_329 (fun g93 H locs eg93 ng93 hJ => ?_)
                              have eg93 : g93 29 x89.toInt.toNat = x92.toInt := eg93
                              have P94 : hg_Q (fun a b => (a = 27 ∧ b = 12) ∨ (a = 30 ∧ 108 ≤ b ∧ b < 117) ∨ (a = 29 ∧ 6480 ≤ b ∧ b < 7020)) g g93 := hg_Q.put iv77 ng93 (show (29 = 27 ∧ x89.toInt.toNat = 12) ∨ (29 = 30 ∧ 108 ≤ x89.toInt.toNat ∧ x89.toInt.toNat < 117) ∨ (29 = 29 ∧ 6480 ≤ x89.toInt.toNat ∧ x89.toInt.toNat < 7020) from by omega)
                              have qt95 : g93 27 12 = g74 27 12 := ng93 27 12 (by omega)
                              have qt96 : g93 11 1 = g74 11 1 := ng93 11 1 (by omega)
                              refine hq_iinc (k := 5) (lv' := fun (z9 : Int32) => [(6, .int z9), (0, .ref h0), (1, .int x46), (2, .int v15), (3, .int x32), (4, .int x45)]) hx hb dX7_parse_330 hl rfl (by decide) (by decide) (by omega) (by omega) (by decide) (fun _ => rfl) (fun x97 ls ex97 hl => ?_)
                              have hl : lv_has ls 7 [(6, .int x97), (0, .ref h0), (1, .int x46), (2, .int v15), (3, .int x32), (4, .int x45)] := hl
                              refine lv_goto (tgt := 299) hx hb dX7_parse_333 (by decide) ?_
                              exact ihlp75 x97 g93 _ _ ls P94 (by omega) (by omega) (by omega) (by omega) (by omega) (by omega) hJ (lv_sub hl [1, 2, 3, 4, 5, 0] rfl)
                        exact lp75 ((61 - z72.toInt).toNat + 1) z72 g68 _ _ ls P69 (by omega) (by omega) (by omega) (by omega) (by omega) (by omega) hJ (lv_sub hl [1, 2, 3, 4, 5, 0] rfl)
                    · refine lv_aload_n hx hb dX7_parse_243 rfl (lv_at hl 0 rfl) ?_
                      refine he_getr (C := RX7) (T := TX7) (N := 24) (ci := 7) (kd := 11) hx hb hts iX7_parse_X7 hown hK hJ k0 rfl rfl 15 (by decide) (hts (.fieldLink RX7 52 "NeighborBookModel" "left" "[I") (List.mem_of_getElem? (i := 4) rfl)) (fun _ h9 => h9) rfl dX7_parse_244 (fun b98 kb98 => ?_)
                      refine hq_bipush hx hb dX7_parse_247 (by decide) (fun z99 ez99 => ?_)
                      refine lv_aload_n hx hb dX7_parse_249 rfl (lv_at hl 0 rfl) ?_
                      refine he_getr (C := RX7) (T := TX7) (N := 24) (ci := 7) (kd := 11) hx hb hts iX7_parse_X7 hown hK hJ k0 rfl rfl 0 (by decide) (hts (.fieldLink RX7 7 "NeighborBookModel" "typed" "[B") (List.mem_of_getElem? (i := 3) rfl)) (fun _ h9 => h9) rfl dX7_parse_250 (fun b100 kb100 => ?_)
                      refine lv_iload_n hx hb dX7_parse_253 rfl (lv_at hl 1 rfl) ?_
                      refine he_bald (kd := 38) (n := 700) hx hb hK hJ kb100 rfl (by omega) (by omega) (sp := (11, 0)) rfl rfl dX7_parse_254 (fun x101 ex101 => ?_)
                      have ex101 : x101.toInt = g16 38 x46.toInt.toNat ∧ -128 ≤ x101.toInt ∧ x101.toInt ≤ 127 := ex101
                      refine hq_sipush hx hb dX7_parse_255 (by decide) (fun z102 ez102 => ?_)
                      refine hq_iand255 hx hb dX7_parse_258 ez102 (fun x103 ex103 => ?_)
                      refine hq_bipush hx hb dX7_parse_259 (by decide) (fun z104 ez104 => ?_)
                      refine hq_ishl8e hx hb dX7_parse_261 ez104 (by omega) (by omega) (fun x105 ex105 => ?_)
                      refine lv_aload_n hx hb dX7_parse_262 rfl (lv_at hl 0 rfl) ?_
                      refine he_getr (C := RX7) (T := TX7) (N := 24) (ci := 7) (kd := 11) hx hb hts iX7_parse_X7 hown hK hJ k0 rfl rfl 0 (by decide) (hts (.fieldLink RX7 7 "NeighborBookModel" "typed" "[B") (List.mem_of_getElem? (i := 3) rfl)) (fun _ h9 => h9) rfl dX7_parse_263 (fun b106 kb106 => ?_)
                      refine lv_iload_n hx hb dX7_parse_266 rfl (lv_at hl 1 rfl) ?_
                      refine hq_iconst hx hb dX7_parse_267 (by decide) (by decide) (fun z107 ez107 => ?_)
                      refine hq_iadd hx hb dX7_parse_268 (by omega) (by omega) (fun x108 ex108 => ?_)
                      refine he_bald (kd := 38) (n := 700) hx hb hK hJ kb106 rfl (by omega) (by omega) (sp := (11, 0)) rfl rfl dX7_parse_269 (fun x109 ex109 => ?_)
                      have ex109 : x109.toInt = g16 38 x108.toInt.toNat ∧ -128 ≤ x109.toInt ∧ x109.toInt ≤ 127 := ex109
                      refine hq_sipush hx hb dX7_parse_270 (by decide) (fun z110 ez110 => ?_)
                      refine hq_iand255 hx hb dX7_parse_273 ez110 (fun x111 ex111 => ?_)
                      refine hq_ior16 hx hb dX7_parse_274 (m9 := x103.toInt) (by omega) (by omega) (by omega) (by omega) (by omega) (fun x112 ex112 => ?_)
                      refine he_iastx (kd := 27) (n := 13) hx hb hK hJ kb98 rfl (by omega) (by omega) (by decide) hW rfl (sp := (0, 0)) rfl rfl rfl dX7_parse_275 (fun g113 H locs eg113 ng113 hJ => ?_)
                      have eg113 : g113 27 z99.toInt.toNat = x112.toInt := eg113
                      have P114 : hg_Q (fun a b => (a = 27 ∧ b = 12) ∨ (a = 30 ∧ 108 ≤ b ∧ b < 117) ∨ (a = 29 ∧ 6480 ≤ b ∧ b < 7020)) g g113 := hg_Q.put iv19 ng113 (show (27 = 27 ∧ z99.toInt.toNat = 12) ∨ (27 = 30 ∧ 108 ≤ z99.toInt.toNat ∧ z99.toInt.toNat < 117) ∨ (27 = 29 ∧ 6480 ≤ z99.toInt.toNat ∧ z99.toInt.toNat < 7020) from by omega)
                      have qt115 : g113 11 1 = g16 11 1 := ng113 11 1 (by omega)
                      have q27 : g113 27 12 = x112.toInt := by
                        rw [show (12 : Nat) = z99.toInt.toNat by omega]
                        exact eg113
                      refine lv_goto (tgt := 336) hx hb dX7_parse_276 (by decide) ?_
                      exact ct48 g113 _ _ ls P114 (by omega) (by omega) (by omega) hJ (lv_sub hl [0, 1, 2, 3, 4] rfl)
                  · refine hq_iconst hx hb dX7_parse_236 (by decide) (by decide) (fun z116 ez116 => ?_)
                    exact he_iret hx hb hK hN hW hlocks hJ hr ⟨iv19, by omega, by omega⟩ dX7_parse_237
                · refine hq_iconst hx hb dX7_parse_230 (by decide) (by decide) (fun z117 ez117 => ?_)
                  exact he_iret hx hb hK hN hW hlocks hJ hr ⟨iv19, by omega, by omega⟩ dX7_parse_231
              have ct119 : ∀ (w118 : Int32) (H : Heap) (locs : List Loc) (ls : Array Slot), (w118.toInt = 0 ∨ (w118.toInt = 1 ∧ (x32.toInt ≠ 3 ∧ x32.toInt ≤ 8 → x45.toInt ≤ 60) ∧ (x32.toInt = 3 → 2 ≤ x45.toInt))) → he_J dC dI dA κ B g16 s.heap H locs → lv_has ls 7 [(0, .ref h0), (1, .int x46), (2, .int v15), (3, .int x32), (4, .int x45)] → W p l e (headSpec wsX7_parse ({ frames := 1, cells := 0, slots := 0, locals := 20 } : Room)).room s m ([Value.ref h0] : List Value).toArray below meth c H locs 0 0 (MQ below (he_Qi dC dI dA κ B (fun r u => hg_Q (fun a b => (a = 27 ∧ b = 12) ∨ (a = 30 ∧ 108 ≤ b ∧ b < 117) ∨ (a = 29 ∧ 6480 ≤ b ∧ b < 7020)) g u ∧ 0 ≤ u 27 12 ∧ u 27 12 ≤ 65535)) ([Value.ref h0] : List Value).toArray s 0 0 (hp_A B)) (F0 m 188 ls [.int w118]) := by
                intro w118 H locs ls iv120 hJ hl
                refine lv_istore (lv' := [(5, .int w118), (0, .ref h0), (1, .int x46), (2, .int v15), (3, .int x32), (4, .int x45)]) hx hb dX7_parse_188 hl (by decide) rfl (fun ls hl => ?_)
                refine lv_iload hx hb dX7_parse_190 (lv_at hl 0 rfl) ?_
                refine hq_if_ne (tgt := 197) hx hb dX7_parse_192 (by decide) (fun c121 => ?_) (fun c121 => ?_)
                · refine lv_iload_n hx hb dX7_parse_197 rfl (lv_at hl 4 rfl) ?_
                  refine he_calli (va_runS (As := [.int x32]) (rest := []) ⟨hx, hb, hml, hown, hts⟩ (e_X7_isMore l dC dI dA κ B g16 x32) (va_cwS 1 hts gX7_parse_X7_isMore rfl rfl rfl (by decide +kernel) ⟨Nat.le_of_ble_eq_true rfl, Nat.le_of_ble_eq_true rfl⟩) (he_preS [.int x32] hK hN hW hJ) rfl rfl hl.1 rfl (lv_room (Nat.le_of_ble_eq_true rfl)) dX7_parse_198 ⟨Nat.zero_le _, Nat.zero_le _⟩) hJ (fun x123 g122 H locs hp hJ => ?_)
                  obtain ⟨rfl, f124⟩ := hp
                  refine hq_if_eq (tgt := 219) hx hb dX7_parse_201 (by decide) (fun c125 => ?_) (fun c125 => ?_)
                  · exact ct55  _ _ ls (by omega) hJ (lv_sub hl [1, 2, 3, 4, 5] rfl)
                  · refine lv_aload_n hx hb dX7_parse_204 rfl (lv_at hl 1 rfl) ?_
                    refine he_getr (C := RX7) (T := TX7) (N := 24) (ci := 7) (kd := 11) hx hb hts iX7_parse_X7 hown hK hJ k0 rfl rfl 18 (by decide) (hts (.fieldLink RX7 61 "NeighborBookModel" "sizes" "[I") (List.mem_of_getElem? (i := 1) rfl)) (fun _ h9 => h9) rfl dX7_parse_205 (fun b126 kb126 => ?_)
                    refine hq_bipush hx hb dX7_parse_208 (by decide) (fun z127 ez127 => ?_)
                    refine lv_iload_n hx hb dX7_parse_210 rfl (lv_at hl 4 rfl) ?_
                    refine hq_iadd hx hb dX7_parse_211 (by omega) (by omega) (fun x128 ex128 => ?_)
                    refine he_iald (kd := 30) (n := 117) hx hb hK hJ kb126 rfl (by omega) (by omega) (sp := (10, 60)) rfl rfl dX7_parse_212 (fun x129 ex129 => ?_)
                    have ex129 : x129.toInt = g16 30 x128.toInt.toNat ∧ -1 ≤ x129.toInt ∧ x129.toInt ≤ 60 := ex129
                    refine hq_iconst hx hb dX7_parse_213 (by decide) (by decide) (fun z130 ez130 => ?_)
                    refine hq_icmp_eq (tgt := 219) hx hb dX7_parse_214 (by decide) (fun c131 => ?_) (fun c131 => ?_)
                    · exact ct55  _ _ ls (by omega) hJ (lv_sub hl [1, 2, 3, 4, 5] rfl)
                    · refine hq_iconst hx hb dX7_parse_217 (by decide) (by decide) (fun z132 ez132 => ?_)
                      exact he_iret hx hb hK hN hW hlocks hJ hr ⟨iv19, by omega, by omega⟩ dX7_parse_218
                · refine hq_iconst hx hb dX7_parse_195 (by decide) (by decide) (fun z133 ez133 => ?_)
                  exact he_iret hx hb hK hN hW hlocks hJ hr ⟨iv19, by omega, by omega⟩ dX7_parse_196
              have ct134 : ∀ (H : Heap) (locs : List Loc) (ls : Array Slot), (0 ≤ x45.toInt) → he_J dC dI dA κ B g16 s.heap H locs → lv_has ls 7 [(0, .ref h0), (1, .int x46), (2, .int v15), (3, .int x32), (4, .int x45)] → W p l e (headSpec wsX7_parse ({ frames := 1, cells := 0, slots := 0, locals := 20 } : Room)).room s m ([Value.ref h0] : List Value).toArray below meth c H locs 0 0 (MQ below (he_Qi dC dI dA κ B (fun r u => hg_Q (fun a b => (a = 27 ∧ b = 12) ∨ (a = 30 ∧ 108 ≤ b ∧ b < 117) ∨ (a = 29 ∧ 6480 ≤ b ∧ b < 7020)) g u ∧ 0 ≤ u 27 12 ∧ u 27 12 ≤ 65535)) ([Value.ref h0] : List Value).toArray s 0 0 (hp_A B)) (F0 m 108 ls []) := by
                intro  H locs ls iv135 hJ hl
                refine lv_iload_n hx hb dX7_parse_108 rfl (lv_at hl 3 rfl) ?_
                refine hq_if_ne (tgt := 125) hx hb dX7_parse_109 (by decide) (fun c136 => ?_) (fun c136 => ?_)
                · refine lv_iload_n hx hb dX7_parse_125 rfl (lv_at hl 3 rfl) ?_
                  refine hq_iconst hx hb dX7_parse_126 (by decide) (by decide) (fun z137 ez137 => ?_)
                  refine hq_icmp_ge (tgt := 151) hx hb dX7_parse_127 (by decide) (fun c138 => ?_) (fun c138 => ?_)
                  · refine lv_iload_n hx hb dX7_parse_151 rfl (lv_at hl 3 rfl) ?_
                    refine hq_iconst hx hb dX7_parse_152 (by decide) (by decide) (fun z139 ez139 => ?_)
                    refine hq_icmp_ne (tgt := 170) hx hb dX7_parse_153 (by decide) (fun c140 => ?_) (fun c140 => ?_)
                    · refine lv_iload_n hx hb dX7_parse_170 rfl (lv_at hl 3 rfl) ?_
                      refine hq_bipush hx hb dX7_parse_171 (by decide) (fun z141 ez141 => ?_)
                      refine hq_icmp_gt (tgt := 183) hx hb dX7_parse_173 (by decide) (fun c142 => ?_) (fun c142 => ?_)
                      · refine hq_iconst hx hb dX7_parse_183 (by decide) (by decide) (fun z143 ez143 => ?_)
                        refine lv_goto (tgt := 188) hx hb dX7_parse_184 (by decide) ?_
                        exact ct119 z143 _ _ ls (by omega) hJ (lv_sub hl [0, 1, 2, 3, 4] rfl)
                      · refine lv_iload hx hb dX7_parse_176 (lv_at hl 4 rfl) ?_
                        refine hq_bipush hx hb dX7_parse_178 (by decide) (fun z144 ez144 => ?_)
                        refine hq_icmp_gt (tgt := 187) hx hb dX7_parse_180 (by decide) (fun c145 => ?_) (fun c145 => ?_)
                        · refine hq_iconst hx hb dX7_parse_187 (by decide) (by decide) (fun z146 ez146 => ?_)
                          exact ct119 z146 _ _ ls (by omega) hJ (lv_sub hl [0, 1, 2, 3, 4] rfl)
                        · refine hq_iconst hx hb dX7_parse_183 (by decide) (by decide) (fun z147 ez147 => ?_)
                          refine lv_goto (tgt := 188) hx hb dX7_parse_184 (by decide) ?_
                          exact ct119 z147 _ _ ls (by omega) hJ (lv_sub hl [0, 1, 2, 3, 4] rfl)
                    · refine lv_iload hx hb dX7_parse_156 (lv_at hl 4 rfl) ?_
                      refine hq_iconst hx hb dX7_parse_158 (by decide) (by decide) (fun z148 ez148 => ?_)
                      refine hq_icmp_lt (tgt := 166) hx hb dX7_parse_159 (by decide) (fun c149 => ?_) (fun c149 => ?_)
                      · refine hq_iconst hx hb dX7_parse_166 (by decide) (by decide) (fun z150 ez150 => ?_)
                        refine lv_goto (tgt := 188) hx hb dX7_parse_167 (by decide) ?_
                        exact ct119 z150 _ _ ls (by omega) hJ (lv_sub hl [0, 1, 2, 3, 4] rfl)
                      · refine hq_iconst hx hb dX7_parse_162 (by decide) (by decide) (fun z151 ez151 => ?_)
                        refine lv_goto (tgt := 188) hx hb dX7_parse_163 (by decide) ?_
                        exact ct119 z151 _ _ ls (by omega) hJ (lv_sub hl [0, 1, 2, 3, 4] rfl)
                  · refine lv_iload hx hb dX7_parse_130 (lv_at hl 4 rfl) ?_
                    refine hq_iconst hx hb dX7_parse_132 (by decide) (by decide) (fun z152 ez152 => ?_)
                    refine hq_icmp_lt (tgt := 147) hx hb dX7_parse_133 (by decide) (fun c153 => ?_) (fun c153 => ?_)
                    · refine hq_iconst hx hb dX7_parse_147 (by decide) (by decide) (fun z154 ez154 => ?_)
                      refine lv_goto (tgt := 188) hx hb dX7_parse_148 (by decide) ?_
                      exact ct119 z154 _ _ ls (by omega) hJ (lv_sub hl [0, 1, 2, 3, 4] rfl)
                    · refine lv_iload hx hb dX7_parse_136 (lv_at hl 4 rfl) ?_
                      refine hq_bipush hx hb dX7_parse_138 (by decide) (fun z155 ez155 => ?_)
                      refine hq_icmp_gt (tgt := 147) hx hb dX7_parse_140 (by decide) (fun c156 => ?_) (fun c156 => ?_)
                      · refine hq_iconst hx hb dX7_parse_147 (by decide) (by decide) (fun z157 ez157 => ?_)
                        refine lv_goto (tgt := 188) hx hb dX7_parse_148 (by decide) ?_
                        exact ct119 z157 _ _ ls (by omega) hJ (lv_sub hl [0, 1, 2, 3, 4] rfl)
                      · refine hq_iconst hx hb dX7_parse_143 (by decide) (by decide) (fun z158 ez158 => ?_)
                        refine lv_goto (tgt := 188) hx hb dX7_parse_144 (by decide) ?_
                        exact ct119 z158 _ _ ls (by omega) hJ (lv_sub hl [0, 1, 2, 3, 4] rfl)
                · refine lv_iload hx hb dX7_parse_112 (lv_at hl 4 rfl) ?_
                  refine hq_if_ne (tgt := 121) hx hb dX7_parse_114 (by decide) (fun c159 => ?_) (fun c159 => ?_)
                  · refine hq_iconst hx hb dX7_parse_121 (by decide) (by decide) (fun z160 ez160 => ?_)
                    refine lv_goto (tgt := 188) hx hb dX7_parse_122 (by decide) ?_
                    exact ct119 z160 _ _ ls (by omega) hJ (lv_sub hl [0, 1, 2, 3, 4] rfl)
                  · refine hq_iconst hx hb dX7_parse_117 (by decide) (by decide) (fun z161 ez161 => ?_)
                    refine lv_goto (tgt := 188) hx hb dX7_parse_118 (by decide) ?_
                    exact ct119 z161 _ _ ls (by omega) hJ (lv_sub hl [0, 1, 2, 3, 4] rfl)
              refine lv_iload_n hx hb dX7_parse_81 rfl (lv_at hl 4 rfl) ?_
              refine hq_iconst hx hb dX7_parse_82 (by decide) (by decide) (fun z162 ez162 => ?_)
              refine hq_icmp_ge (tgt := 96) hx hb dX7_parse_83 (by decide) (fun c163 => ?_) (fun c163 => ?_)
              · refine lv_iload_n hx hb dX7_parse_96 rfl (lv_at hl 2 rfl) ?_
                refine hq_iconst hx hb dX7_parse_97 (by decide) (by decide) (fun z164 ez164 => ?_)
                refine hq_icmp_lt (tgt := 108) hx hb dX7_parse_98 (by decide) (fun c165 => ?_) (fun c165 => ?_)
                · exact ct134  _ _ ls (by omega) hJ (lv_sub hl [3, 0, 4, 2, 1] rfl)
                · refine lv_iload_n hx hb dX7_parse_101 rfl (lv_at hl 2 rfl) ?_
                  refine hq_iconst hx hb dX7_parse_102 (by decide) (by decide) (fun z166 ez166 => ?_)
                  refine hq_icmp_gt (tgt := 108) hx hb dX7_parse_103 (by decide) (fun c167 => ?_) (fun c167 => ?_)
                  · exact ct134  _ _ ls (by omega) hJ (lv_sub hl [3, 0, 4, 2, 1] rfl)
                  · refine hq_iconst hx hb dX7_parse_106 (by decide) (by decide) (fun z168 ez168 => ?_)
                    exact he_iret hx hb hK hN hW hlocks hJ hr ⟨iv19, by omega, by omega⟩ dX7_parse_107
              · refine lv_iload_n hx hb dX7_parse_86 rfl (lv_at hl 2 rfl) ?_
                refine lv_iload_n hx hb dX7_parse_87 rfl (lv_at hl 4 rfl) ?_
                refine hq_iconst hx hb dX7_parse_88 (by decide) (by decide) (fun z169 ez169 => ?_)
                refine hq_iaddU hx hb dX7_parse_89 (fun x170 => ?_)
                refine hq_icmp_eq (tgt := 108) hx hb dX7_parse_90 (by decide) (fun c171 => ?_) (fun c171 => ?_)
                · exact ct134  _ _ ls (by omega) hJ (lv_sub hl [3, 0, 4, 2, 1] rfl)
                · refine lv_goto (tgt := 106) hx hb dX7_parse_93 (by decide) ?_
                  refine hq_iconst hx hb dX7_parse_106 (by decide) (by decide) (fun z172 ez172 => ?_)
                  exact he_iret hx hb hK hN hW hlocks hJ hr ⟨iv19, by omega, by omega⟩ dX7_parse_107
            · refine hq_iconst hx hb dX7_parse_38 (by decide) (by decide) (fun z173 ez173 => ?_)
              exact he_iret hx hb hK hN hW hlocks hJ hr ⟨iv19, by omega, by omega⟩ dX7_parse_39
        exact lp17 ((701 - z12.toInt).toNat + 1) z12 z13 g3 _ _ ls iv6 (by omega) (by omega) (by omega) (by omega) hJ (lv_sub hl [2, 1, 0] rfl)
      · refine lv_aload_n hx hb dX7_parse_8 rfl (lv_at hl 0 rfl) ?_
        refine he_getr (C := RX7) (T := TX7) (N := 24) (ci := 7) (kd := 11) hx hb hts iX7_parse_X7 hown hK hJ k0 rfl rfl 18 (by decide) (hts (.fieldLink RX7 61 "NeighborBookModel" "sizes" "[I") (List.mem_of_getElem? (i := 1) rfl)) (fun _ h9 => h9) rfl dX7_parse_9 (fun b174 kb174 => ?_)
        refine hq_bipush hx hb dX7_parse_12 (by decide) (fun z175 ez175 => ?_)
        refine lv_iload_n hx hb dX7_parse_14 rfl (lv_at hl 1 rfl) ?_
        refine hq_iadd hx hb dX7_parse_15 (by omega) (by omega) (fun x176 ex176 => ?_)
        refine hq_iconst hx hb dX7_parse_16 (by decide) (by decide) (fun z177 ez177 => ?_)
        refine he_iastx (kd := 30) (n := 117) hx hb hK hJ kb174 rfl (by omega) (by omega) (by decide) hW rfl (sp := (10, 60)) rfl rfl (show z177.toInt = z177.toInt ∧ -1 ≤ z177.toInt ∧ z177.toInt ≤ 60 from ⟨rfl, by omega, by omega⟩) dX7_parse_17 (fun g178 H locs eg178 ng178 hJ => ?_)
        have eg178 : g178 30 x176.toInt.toNat = z177.toInt := eg178
        have P179 : hg_Q (fun a b => (a = 27 ∧ b = 12) ∨ (a = 30 ∧ 108 ≤ b ∧ b < 117) ∨ (a = 29 ∧ 6480 ≤ b ∧ b < 7020)) g g178 := hg_Q.put iv6 ng178 (show (30 = 27 ∧ x176.toInt.toNat = 12) ∨ (30 = 30 ∧ 108 ≤ x176.toInt.toNat ∧ x176.toInt.toNat < 117) ∨ (30 = 29 ∧ 6480 ≤ x176.toInt.toNat ∧ x176.toInt.toNat < 7020) from by omega)
        have qt180 : g178 27 12 = g3 27 12 := ng178 27 12 (by omega)
        have qt181 : g178 11 1 = g3 11 1 := ng178 11 1 (by omega)
        refine hq_iinc (k := 1) (lv' := fun (z9 : Int32) => [(1, .int z9), (0, .ref h0)]) hx hb dX7_parse_18 hl rfl (by decide) (by decide) (by omega) (by omega) (by decide) (fun _ => rfl) (fun x182 ls ex182 hl => ?_)
        have hl : lv_has ls 7 [(1, .int x182), (0, .ref h0)] := hl
        refine lv_goto (tgt := 2) hx hb dX7_parse_21 (by decide) ?_
        exact ihlp4 x182 g178 _ _ ls P179 (by omega) (by omega) (by omega) (by omega) hJ (lv_sub hl [1, 0] rfl)
  exact lp4 ((10 - z1.toInt).toNat + 1) z1 g _ _ ls hg_Q.rf (by omega) (by omega) (by omega) (by omega) hJ (lv_sub hl [1, 0] rfl)
