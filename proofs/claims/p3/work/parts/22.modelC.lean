theorem iX7_parse_X7 : ∀ w ∈ wsX70, w ∈ wsX7_parse := fun _ h => List.mem_cons_of_mem _ (List.mem_append_right _ h)
set_option maxRecDepth 100000 in
set_option maxHeartbeats 4000000 in
theorem c_X7_parse (l : Launch) (dC : Nat → ClassId) (dI : Nat → Nat → Nat) (dA : Nat → ClassId) (κ : Nat → Nat) (B : Nat) (g : Nat → Nat → Int) (h0 : Nat) (k0 : κ h0 = 11) (hG : hg_k g) : Met l yX7_parse wsX7_parse ({ frames := 1, cells := 0, slots := 0, locals := 20 } : Room) (hp_Pre dC dI dA κ B g [Value.ref h0]) (hp_Qi dC dI dA κ B (fun r u => g = u)) 0 0 (hp_A B) := by
  refine Met.ofW (cc := cX7_parse) (maxL := 7) (ret := (some .int)) (by decide) rfl ?_
  intro p e s m args below meth c s₁ Bd hml hv
  obtain ⟨rfl, hK, hN, hW, hF⟩ := hv
  have hx := Bd.exec
  have hb := Bd.bytes
  have hr := Bd.returns
  have hts := atoms_spec (ws := wsX7_parse) Bd.pre
  have hown : s.vm.findClass RX7 = some m.cls := findClass_of_methodNamed Bd.named
  have hlocks := Bd.notSynchronized
  have hJ : hp_J dC dI dA κ B g s.heap s.heap [] := ⟨hF, va_S.rf⟩
  have hl := lv_entry ([Value.ref h0]) (n := 7) (Nat.le_of_ble_eq_true rfl)
  rw [lg_entry_eq]
  generalize (lg_sl ([Value.ref h0]) ++ List.replicate (7 - (lg_sl ([Value.ref h0])).length) Slot.unset).toArray = ls at hl ⊢
  have hl : lv_has ls 7 [(0, .ref h0)] := hl
  obtain ⟨hG1, hG2, hG3, hG4, hG5, hG6, hG7, hG8⟩ := id hG
  refine hq_iconst hx hb dX7_parse_0 (by decide) (by decide) (fun z1 ez1 => ?_)
  refine lv_istore_n (lv' := [(1, .int z1), (0, .ref h0)]) hx hb dX7_parse_1 rfl hl (by decide) rfl (fun ls hl => ?_)
  have lp3 : ∀ (nlp3 : Nat) (v2 : Int32) (H : Heap) (locs : List Loc) (ls : Array Slot), (0 ≤ v2.toInt) → (v2.toInt ≤ 9) → (10 - v2.toInt < (nlp3 : Int)) → hp_J dC dI dA κ B g s.heap H locs → lv_has ls 7 [(0, .ref h0), (1, .int v2)] → W p l e (headSpec wsX7_parse ({ frames := 1, cells := 0, slots := 0, locals := 20 } : Room)).room s m ([Value.ref h0] : List Value).toArray below meth c H locs 0 0 (MQ below (hp_Qi dC dI dA κ B (fun r u => g = u)) ([Value.ref h0] : List Value).toArray s 0 0 (hp_A B)) (F0 m 2 ls []) := by
    intro nlp3
    induction nlp3 with
    | zero => intro v2 H locs ls iv5 iv6 hm4 hJ hl; exact absurd hm4 (by omega)
    | succ nlp3 ihlp3 =>
      intro v2 H locs ls iv5 iv6 hm4 hJ hl
      refine lv_iload_n hx hb dX7_parse_2 rfl (lv_at hl 1 rfl) ?_
      refine hq_bipush hx hb dX7_parse_3 (by decide) (fun z7 ez7 => ?_)
      refine hq_icmp_ge (tgt := 24) hx hb dX7_parse_5 (by decide) (fun c8 => ?_) (fun c8 => ?_)
      · refine hq_iconst hx hb dX7_parse_24 (by decide) (by decide) (fun z9 ez9 => ?_)
        refine lv_istore_n (lv' := [(1, .int z9), (0, .ref h0)]) hx hb dX7_parse_25 rfl hl (by decide) rfl (fun ls hl => ?_)
        refine hq_iconst hx hb dX7_parse_26 (by decide) (by decide) (fun z10 ez10 => ?_)
        refine lv_istore_n (lv' := [(2, .int z10), (1, .int z9), (0, .ref h0)]) hx hb dX7_parse_27 rfl hl (by decide) rfl (fun ls hl => ?_)
        have lp13 : ∀ (nlp13 : Nat) (v11 : Int32) (v12 : Int32) (H : Heap) (locs : List Loc) (ls : Array Slot), (0 ≤ v11.toInt) → (v11.toInt ≤ 700) → (701 - v11.toInt < (nlp13 : Int)) → hp_J dC dI dA κ B g s.heap H locs → lv_has ls 7 [(0, .ref h0), (1, .int v11), (2, .int v12)] → W p l e (headSpec wsX7_parse ({ frames := 1, cells := 0, slots := 0, locals := 20 } : Room)).room s m ([Value.ref h0] : List Value).toArray below meth c H locs 0 0 (MQ below (hp_Qi dC dI dA κ B (fun r u => g = u)) ([Value.ref h0] : List Value).toArray s 0 0 (hp_A B)) (F0 m 28 ls []) := by
          intro nlp13
          induction nlp13 with
          | zero => intro v11 v12 H locs ls iv15 iv16 hm14 hJ hl; exact absurd hm14 (by omega)
          | succ nlp13 ihlp13 =>
            intro v11 v12 H locs ls iv15 iv16 hm14 hJ hl
            refine lv_iload_n hx hb dX7_parse_28 rfl (lv_at hl 1 rfl) ?_
            refine hq_iconst hx hb dX7_parse_29 (by decide) (by decide) (fun z17 ez17 => ?_)
            refine hq_iadd hx hb dX7_parse_30 (by omega) (by omega) (fun x18 ex18 => ?_)
            refine lv_aload_n hx hb dX7_parse_31 rfl (lv_at hl 0 rfl) ?_
            refine hp_geti (C := RX7) (T := TX7) (N := 24) (ci := 7) (kd := 11) hx hb hts iX7_parse_X7 hown hK hJ k0 rfl rfl 1 (by decide) (hts (.fieldLink RX7 70 "NeighborBookModel" "typedSize" "I") (List.mem_of_getElem? (i := 2) rfl)) (fun _ h9 => h9) rfl rfl dX7_parse_32 (fun x19 ex19 => ?_)
            have ex19 : x19.toInt = g 11 1 := ex19
            refine hq_icmp_le (tgt := 40) hx hb dX7_parse_35 (by decide) (fun c20 => ?_) (fun c20 => ?_)
            · refine lv_aload_n hx hb dX7_parse_40 rfl (lv_at hl 0 rfl) ?_
              refine hp_getr (C := RX7) (T := TX7) (N := 24) (ci := 7) (kd := 11) hx hb hts iX7_parse_X7 hown hK hJ k0 rfl rfl 0 (by decide) (hts (.fieldLink RX7 7 "NeighborBookModel" "typed" "[B") (List.mem_of_getElem? (i := 3) rfl)) (fun _ h9 => h9) rfl dX7_parse_41 (fun b21 kb21 => ?_)
              refine lv_iload_n hx hb dX7_parse_44 rfl (lv_at hl 1 rfl) ?_
              refine hp_bald (kd := 12) (n := 700) hx hb hK hJ kb21 rfl (by omega) (by omega) (sp := (5, 0)) rfl rfl dX7_parse_45 (fun x22 ex22 => ?_)
              have ex22 : -128 ≤ x22.toInt ∧ x22.toInt ≤ 127 := ex22
              refine hq_iconst hx hb dX7_parse_46 (by decide) (by decide) (fun z23 ez23 => ?_)
              refine hq_ishrU hx hb dX7_parse_47 (fun x24 => ?_)
              refine hq_bipush hx hb dX7_parse_48 (by decide) (fun z25 ez25 => ?_)
              refine hq_iandm (k := 7) hx hb dX7_parse_50 ez25 (by decide) (fun x26 ex26 => ?_)
              refine lv_istore_n (lv' := [(3, .int x26), (0, .ref h0), (1, .int v11), (2, .int v12)]) hx hb dX7_parse_51 rfl hl (by decide) rfl (fun ls hl => ?_)
              refine lv_aload_n hx hb dX7_parse_52 rfl (lv_at hl 1 rfl) ?_
              refine hp_getr (C := RX7) (T := TX7) (N := 24) (ci := 7) (kd := 11) hx hb hts iX7_parse_X7 hown hK hJ k0 rfl rfl 0 (by decide) (hts (.fieldLink RX7 7 "NeighborBookModel" "typed" "[B") (List.mem_of_getElem? (i := 3) rfl)) (fun _ h9 => h9) rfl dX7_parse_53 (fun b27 kb27 => ?_)
              refine lv_iload_n hx hb dX7_parse_56 rfl (lv_at hl 2 rfl) ?_
              refine hp_bald (kd := 12) (n := 700) hx hb hK hJ kb27 rfl (by omega) (by omega) (sp := (5, 0)) rfl rfl dX7_parse_57 (fun x28 ex28 => ?_)
              have ex28 : -128 ≤ x28.toInt ∧ x28.toInt ≤ 127 := ex28
              refine hq_iconst hx hb dX7_parse_58 (by decide) (by decide) (fun z29 ez29 => ?_)
              refine hq_iandm (k := 1) hx hb dX7_parse_59 ez29 (by decide) (fun x30 ex30 => ?_)
              refine hq_bipush hx hb dX7_parse_60 (by decide) (fun z31 ez31 => ?_)
              refine hq_ishl8 hx hb dX7_parse_62 ez31 (by omega) (fun x32 ex32 => ?_)
              refine lv_aload_n hx hb dX7_parse_63 rfl (lv_at hl 1 rfl) ?_
              refine hp_getr (C := RX7) (T := TX7) (N := 24) (ci := 7) (kd := 11) hx hb hts iX7_parse_X7 hown hK hJ k0 rfl rfl 0 (by decide) (hts (.fieldLink RX7 7 "NeighborBookModel" "typed" "[B") (List.mem_of_getElem? (i := 3) rfl)) (fun _ h9 => h9) rfl dX7_parse_64 (fun b33 kb33 => ?_)
              refine lv_iload_n hx hb dX7_parse_67 rfl (lv_at hl 2 rfl) ?_
              refine hq_iconst hx hb dX7_parse_68 (by decide) (by decide) (fun z34 ez34 => ?_)
              refine hq_iadd hx hb dX7_parse_69 (by omega) (by omega) (fun x35 ex35 => ?_)
              refine hp_bald (kd := 12) (n := 700) hx hb hK hJ kb33 rfl (by omega) (by omega) (sp := (5, 0)) rfl rfl dX7_parse_70 (fun x36 ex36 => ?_)
              have ex36 : -128 ≤ x36.toInt ∧ x36.toInt ≤ 127 := ex36
              refine hq_sipush hx hb dX7_parse_71 (by decide) (fun z37 ez37 => ?_)
              refine hq_iandm (k := 8) hx hb dX7_parse_74 ez37 (by decide) (fun x38 ex38 => ?_)
              refine hq_ior9 hx hb dX7_parse_75 (by omega) (by omega) (by omega) (by omega) (fun x39 ex39 => ?_)
              refine lv_istore (lv' := [(4, .int x39), (3, .int x26), (0, .ref h0), (1, .int v11), (2, .int v12)]) hx hb dX7_parse_76 hl (by decide) rfl (fun ls hl => ?_)
              refine hq_iinc (k := 3) (lv' := fun (z9 : Int32) => [(1, .int z9), (4, .int x39), (3, .int x26), (0, .ref h0), (2, .int v12)]) hx hb dX7_parse_78 hl rfl (by decide) (by decide) (by omega) (by omega) (by decide) (fun _ => rfl) (fun x40 ls ex40 hl => ?_)
              have hl : lv_has ls 7 [(1, .int x40), (4, .int x39), (3, .int x26), (0, .ref h0), (2, .int v12)] := hl
              have ct41 : ∀ (H : Heap) (locs : List Loc) (ls : Array Slot), (x40.toInt + x39.toInt ≤ g 11 1) → hp_J dC dI dA κ B g s.heap H locs → lv_has ls 7 [(0, .ref h0), (1, .int x40), (2, .int v12), (3, .int x26), (4, .int x39)] → W p l e (headSpec wsX7_parse ({ frames := 1, cells := 0, slots := 0, locals := 20 } : Room)).room s m ([Value.ref h0] : List Value).toArray below meth c H locs 0 0 (MQ below (hp_Qi dC dI dA κ B (fun r u => g = u)) ([Value.ref h0] : List Value).toArray s 0 0 (hp_A B)) (F0 m 336 ls []) := by
                intro  H locs ls iv42 hJ hl
                refine lv_iload_n hx hb dX7_parse_336 rfl (lv_at hl 1 rfl) ?_
                refine lv_iload hx hb dX7_parse_337 (lv_at hl 4 rfl) ?_
                refine hq_iadd hx hb dX7_parse_339 (by omega) (by omega) (fun x43 ex43 => ?_)
                refine lv_istore_n (lv' := [(1, .int x43), (0, .ref h0), (2, .int v12), (3, .int x26), (4, .int x39)]) hx hb dX7_parse_340 rfl hl (by decide) rfl (fun ls hl => ?_)
                refine hq_iincU (k := 2) (lv' := fun (z9 : Int32) => [(2, .int z9), (1, .int x43), (0, .ref h0), (3, .int x26), (4, .int x39)]) hx hb dX7_parse_341 hl rfl (by decide) (fun _ => rfl) (fun x44 ls hl => ?_)
                have hl : lv_has ls 7 [(2, .int x44), (1, .int x43), (0, .ref h0), (3, .int x26), (4, .int x39)] := hl
                refine lv_goto (tgt := 28) hx hb dX7_parse_344 (by decide) ?_
                exact ihlp13 x43 x44 _ _ ls (by omega) (by omega) (by omega) hJ (lv_sub hl [2, 1, 0] rfl)
              have ct45 : ∀ (H : Heap) (locs : List Loc) (ls : Array Slot), ((x26.toInt ≠ 3 ∧ x26.toInt ≤ 8 → x39.toInt ≤ 60) ∧ (x26.toInt = 3 → 2 ≤ x39.toInt)) → hp_J dC dI dA κ B g s.heap H locs → lv_has ls 7 [(0, .ref h0), (1, .int x40), (2, .int v12), (3, .int x26), (4, .int x39)] → W p l e (headSpec wsX7_parse ({ frames := 1, cells := 0, slots := 0, locals := 20 } : Room)).room s m ([Value.ref h0] : List Value).toArray below meth c H locs 0 0 (MQ below (hp_Qi dC dI dA κ B (fun r u => g = u)) ([Value.ref h0] : List Value).toArray s 0 0 (hp_A B)) (F0 m 219 ls []) := by
                intro  H locs ls iv46 hJ hl
                refine lv_iload_n hx hb dX7_parse_219 rfl (lv_at hl 1 rfl) ?_
                refine lv_iload hx hb dX7_parse_220 (lv_at hl 4 rfl) ?_
                refine hq_iadd hx hb dX7_parse_222 (by omega) (by omega) (fun x47 ex47 => ?_)
                refine lv_aload_n hx hb dX7_parse_223 rfl (lv_at hl 0 rfl) ?_
                refine hp_geti (C := RX7) (T := TX7) (N := 24) (ci := 7) (kd := 11) hx hb hts iX7_parse_X7 hown hK hJ k0 rfl rfl 1 (by decide) (hts (.fieldLink RX7 70 "NeighborBookModel" "typedSize" "I") (List.mem_of_getElem? (i := 2) rfl)) (fun _ h9 => h9) rfl rfl dX7_parse_224 (fun x48 ex48 => ?_)
                have ex48 : x48.toInt = g 11 1 := ex48
                refine hq_icmp_le (tgt := 232) hx hb dX7_parse_227 (by decide) (fun c49 => ?_) (fun c49 => ?_)
                · refine lv_iload_n hx hb dX7_parse_232 rfl (lv_at hl 3 rfl) ?_
                  refine hq_if_ne (tgt := 238) hx hb dX7_parse_233 (by decide) (fun c50 => ?_) (fun c50 => ?_)
                  · refine lv_iload_n hx hb dX7_parse_238 rfl (lv_at hl 3 rfl) ?_
                    refine hq_iconst hx hb dX7_parse_239 (by decide) (by decide) (fun z51 ez51 => ?_)
                    refine hq_icmp_ne (tgt := 279) hx hb dX7_parse_240 (by decide) (fun c52 => ?_) (fun c52 => ?_)
                    · refine lv_iload_n hx hb dX7_parse_279 rfl (lv_at hl 3 rfl) ?_
                      refine hq_bipush hx hb dX7_parse_280 (by decide) (fun z53 ez53 => ?_)
                      refine hq_icmp_ge (tgt := 336) hx hb dX7_parse_282 (by decide) (fun c54 => ?_) (fun c54 => ?_)
                      · exact ct41  _ _ ls (by omega) hJ (lv_sub hl [0, 1, 2, 3, 4] rfl)
                      · refine lv_aload_n hx hb dX7_parse_285 rfl (lv_at hl 0 rfl) ?_
                        refine hp_getr (C := RX7) (T := TX7) (N := 24) (ci := 7) (kd := 11) hx hb hts iX7_parse_X7 hown hK hJ k0 rfl rfl 18 (by decide) (hts (.fieldLink RX7 61 "NeighborBookModel" "sizes" "[I") (List.mem_of_getElem? (i := 1) rfl)) (fun _ h9 => h9) rfl dX7_parse_286 (fun b55 kb55 => ?_)
                        refine hq_bipush hx hb dX7_parse_289 (by decide) (fun z56 ez56 => ?_)
                        refine lv_iload_n hx hb dX7_parse_291 rfl (lv_at hl 3 rfl) ?_
                        refine hq_iadd hx hb dX7_parse_292 (by omega) (by omega) (fun x57 ex57 => ?_)
                        refine lv_iload hx hb dX7_parse_293 (lv_at hl 4 rfl) ?_
                        refine hp_iast (kd := 29) (n := 117) hx hb hK hJ kb55 rfl (by omega) (by omega) (by decide) hW (sp := (3, 60)) rfl rfl (show _ ∧ _ from by constructor <;> omega) dX7_parse_295 (fun H locs hJ => ?_)
                        refine hq_iconst hx hb dX7_parse_296 (by decide) (by decide) (fun z58 ez58 => ?_)
                        refine lv_istore (lv' := [(6, .int z58), (0, .ref h0), (1, .int x40), (2, .int v12), (3, .int x26), (4, .int x39)]) hx hb dX7_parse_297 hl (by decide) rfl (fun ls hl => ?_)
                        have lp60 : ∀ (nlp60 : Nat) (v59 : Int32) (H : Heap) (locs : List Loc) (ls : Array Slot), (0 ≤ v59.toInt) → (v59.toInt ≤ 60) → (61 - v59.toInt < (nlp60 : Int)) → hp_J dC dI dA κ B g s.heap H locs → lv_has ls 7 [(0, .ref h0), (1, .int x40), (2, .int v12), (3, .int x26), (4, .int x39), (6, .int v59)] → W p l e (headSpec wsX7_parse ({ frames := 1, cells := 0, slots := 0, locals := 20 } : Room)).room s m ([Value.ref h0] : List Value).toArray below meth c H locs 0 0 (MQ below (hp_Qi dC dI dA κ B (fun r u => g = u)) ([Value.ref h0] : List Value).toArray s 0 0 (hp_A B)) (F0 m 299 ls []) := by
                          intro nlp60
                          induction nlp60 with
                          | zero => intro v59 H locs ls iv62 iv63 hm61 hJ hl; exact absurd hm61 (by omega)
                          | succ nlp60 ihlp60 =>
                            intro v59 H locs ls iv62 iv63 hm61 hJ hl
                            refine lv_iload hx hb dX7_parse_299 (lv_at hl 5 rfl) ?_
                            refine lv_iload hx hb dX7_parse_301 (lv_at hl 4 rfl) ?_
                            refine hq_icmp_ge (tgt := 336) hx hb dX7_parse_303 (by decide) (fun c64 => ?_) (fun c64 => ?_)
                            · exact ct41  _ _ ls (by omega) hJ (lv_sub hl [0, 1, 2, 3, 4] rfl)
                            · refine lv_aload_n hx hb dX7_parse_306 rfl (lv_at hl 0 rfl) ?_
                              refine hp_getr (C := RX7) (T := TX7) (N := 24) (ci := 7) (kd := 11) hx hb hts iX7_parse_X7 hown hK hJ k0 rfl rfl 17 (by decide) (hts (.fieldLink RX7 58 "NeighborBookModel" "bytes" "[B") (List.mem_of_getElem? (i := 5) rfl)) (fun _ h9 => h9) rfl dX7_parse_307 (fun b65 kb65 => ?_)
                              refine hq_bipush hx hb dX7_parse_310 (by decide) (fun z66 ez66 => ?_)
                              refine lv_iload_n hx hb dX7_parse_312 rfl (lv_at hl 3 rfl) ?_
                              refine hq_iadd hx hb dX7_parse_313 (by omega) (by omega) (fun x67 ex67 => ?_)
                              refine hq_bipush hx hb dX7_parse_314 (by decide) (fun z68 ez68 => ?_)
                              refine hq_imul (w := x67.toInt * 60) hx hb dX7_parse_316 (by rw [ez68]) (by omega) (by omega) (fun x69 ex69 => ?_)
                              refine lv_iload hx hb dX7_parse_317 (lv_at hl 5 rfl) ?_
                              refine hq_iadd hx hb dX7_parse_319 (by omega) (by omega) (fun x70 ex70 => ?_)
                              refine lv_aload_n hx hb dX7_parse_320 rfl (lv_at hl 0 rfl) ?_
                              refine hp_getr (C := RX7) (T := TX7) (N := 24) (ci := 7) (kd := 11) hx hb hts iX7_parse_X7 hown hK hJ k0 rfl rfl 0 (by decide) (hts (.fieldLink RX7 7 "NeighborBookModel" "typed" "[B") (List.mem_of_getElem? (i := 3) rfl)) (fun _ h9 => h9) rfl dX7_parse_321 (fun b71 kb71 => ?_)
                              refine lv_iload_n hx hb dX7_parse_324 rfl (lv_at hl 1 rfl) ?_
                              refine lv_iload hx hb dX7_parse_325 (lv_at hl 5 rfl) ?_
                              refine hq_iadd hx hb dX7_parse_327 (by omega) (by omega) (fun x72 ex72 => ?_)
                              refine hp_bald (kd := 12) (n := 700) hx hb hK hJ kb71 rfl (by omega) (by omega) (sp := (5, 0)) rfl rfl dX7_parse_328 (fun x73 ex73 => ?_)
                              have ex73 : -128 ≤ x73.toInt ∧ x73.toInt ≤ 127 := ex73
                              refine hp_bast (kd := 28) (n := 7020) hx hb hK hJ kb65 rfl (by omega) (by omega) (by decide) hW rfl dX7_parse_329 (fun H locs hJ => ?_)
                              refine hq_iinc (k := 5) (lv' := fun (z9 : Int32) => [(6, .int z9), (0, .ref h0), (1, .int x40), (2, .int v12), (3, .int x26), (4, .int x39)]) hx hb dX7_parse_330 hl rfl (by decide) (by decide) (by omega) (by omega) (by decide) (fun _ => rfl) (fun x74 ls ex74 hl => ?_)
                              have hl : lv_has ls 7 [(6, .int x74), (0, .ref h0), (1, .int x40), (2, .int v12), (3, .int x26), (4, .int x39)] := hl
                              refine lv_goto (tgt := 299) hx hb dX7_parse_333 (by decide) ?_
                              exact ihlp60 x74 _ _ ls (by omega) (by omega) (by omega) hJ (lv_sub hl [1, 2, 3, 4, 5, 0] rfl)
                        exact lp60 ((61 - z58.toInt).toNat + 1) z58 _ _ ls (by omega) (by omega) (by omega) hJ (lv_sub hl [1, 2, 3, 4, 5, 0] rfl)
                    · refine lv_aload_n hx hb dX7_parse_243 rfl (lv_at hl 0 rfl) ?_
                      refine hp_getr (C := RX7) (T := TX7) (N := 24) (ci := 7) (kd := 11) hx hb hts iX7_parse_X7 hown hK hJ k0 rfl rfl 15 (by decide) (hts (.fieldLink RX7 52 "NeighborBookModel" "left" "[I") (List.mem_of_getElem? (i := 4) rfl)) (fun _ h9 => h9) rfl dX7_parse_244 (fun b75 kb75 => ?_)
                      refine hq_bipush hx hb dX7_parse_247 (by decide) (fun z76 ez76 => ?_)
                      refine lv_aload_n hx hb dX7_parse_249 rfl (lv_at hl 0 rfl) ?_
                      refine hp_getr (C := RX7) (T := TX7) (N := 24) (ci := 7) (kd := 11) hx hb hts iX7_parse_X7 hown hK hJ k0 rfl rfl 0 (by decide) (hts (.fieldLink RX7 7 "NeighborBookModel" "typed" "[B") (List.mem_of_getElem? (i := 3) rfl)) (fun _ h9 => h9) rfl dX7_parse_250 (fun b77 kb77 => ?_)
                      refine lv_iload_n hx hb dX7_parse_253 rfl (lv_at hl 1 rfl) ?_
                      refine hp_bald (kd := 12) (n := 700) hx hb hK hJ kb77 rfl (by omega) (by omega) (sp := (5, 0)) rfl rfl dX7_parse_254 (fun x78 ex78 => ?_)
                      have ex78 : -128 ≤ x78.toInt ∧ x78.toInt ≤ 127 := ex78
                      refine hq_sipush hx hb dX7_parse_255 (by decide) (fun z79 ez79 => ?_)
                      refine hq_iandm (k := 8) hx hb dX7_parse_258 ez79 (by decide) (fun x80 ex80 => ?_)
                      refine hq_bipush hx hb dX7_parse_259 (by decide) (fun z81 ez81 => ?_)
                      refine hq_ishlU hx hb dX7_parse_261 (fun x82 => ?_)
                      refine lv_aload_n hx hb dX7_parse_262 rfl (lv_at hl 0 rfl) ?_
                      refine hp_getr (C := RX7) (T := TX7) (N := 24) (ci := 7) (kd := 11) hx hb hts iX7_parse_X7 hown hK hJ k0 rfl rfl 0 (by decide) (hts (.fieldLink RX7 7 "NeighborBookModel" "typed" "[B") (List.mem_of_getElem? (i := 3) rfl)) (fun _ h9 => h9) rfl dX7_parse_263 (fun b83 kb83 => ?_)
                      refine lv_iload_n hx hb dX7_parse_266 rfl (lv_at hl 1 rfl) ?_
                      refine hq_iconst hx hb dX7_parse_267 (by decide) (by decide) (fun z84 ez84 => ?_)
                      refine hq_iadd hx hb dX7_parse_268 (by omega) (by omega) (fun x85 ex85 => ?_)
                      refine hp_bald (kd := 12) (n := 700) hx hb hK hJ kb83 rfl (by omega) (by omega) (sp := (5, 0)) rfl rfl dX7_parse_269 (fun x86 ex86 => ?_)
                      have ex86 : -128 ≤ x86.toInt ∧ x86.toInt ≤ 127 := ex86
                      refine hq_sipush hx hb dX7_parse_270 (by decide) (fun z87 ez87 => ?_)
                      refine hq_iandm (k := 8) hx hb dX7_parse_273 ez87 (by decide) (fun x88 ex88 => ?_)
                      refine hq_iorU hx hb dX7_parse_274 (fun x89 => ?_)
                      refine hp_iast (kd := 27) (n := 13) hx hb hK hJ kb75 rfl (by omega) (by omega) (by decide) hW (sp := (1, 0)) rfl rfl trivial dX7_parse_275 (fun H locs hJ => ?_)
                      refine lv_goto (tgt := 336) hx hb dX7_parse_276 (by decide) ?_
                      exact ct41  _ _ ls (by omega) hJ (lv_sub hl [0, 1, 2, 3, 4] rfl)
                  · refine hq_iconst hx hb dX7_parse_236 (by decide) (by decide) (fun z90 ez90 => ?_)
                    exact hp_iret hx hb hK hN hW hlocks hJ hr rfl dX7_parse_237
                · refine hq_iconst hx hb dX7_parse_230 (by decide) (by decide) (fun z91 ez91 => ?_)
                  exact hp_iret hx hb hK hN hW hlocks hJ hr rfl dX7_parse_231
              have ct93 : ∀ (w92 : Int32) (H : Heap) (locs : List Loc) (ls : Array Slot), (w92.toInt = 0 ∨ (w92.toInt = 1 ∧ (x26.toInt ≠ 3 ∧ x26.toInt ≤ 8 → x39.toInt ≤ 60) ∧ (x26.toInt = 3 → 2 ≤ x39.toInt))) → hp_J dC dI dA κ B g s.heap H locs → lv_has ls 7 [(0, .ref h0), (1, .int x40), (2, .int v12), (3, .int x26), (4, .int x39)] → W p l e (headSpec wsX7_parse ({ frames := 1, cells := 0, slots := 0, locals := 20 } : Room)).room s m ([Value.ref h0] : List Value).toArray below meth c H locs 0 0 (MQ below (hp_Qi dC dI dA κ B (fun r u => g = u)) ([Value.ref h0] : List Value).toArray s 0 0 (hp_A B)) (F0 m 188 ls [.int w92]) := by
                intro w92 H locs ls iv94 hJ hl
                refine lv_istore (lv' := [(5, .int w92), (0, .ref h0), (1, .int x40), (2, .int v12), (3, .int x26), (4, .int x39)]) hx hb dX7_parse_188 hl (by decide) rfl (fun ls hl => ?_)
                refine lv_iload hx hb dX7_parse_190 (lv_at hl 0 rfl) ?_
                refine hq_if_ne (tgt := 197) hx hb dX7_parse_192 (by decide) (fun c95 => ?_) (fun c95 => ?_)
                · refine lv_iload_n hx hb dX7_parse_197 rfl (lv_at hl 4 rfl) ?_
                  refine hp_calli (va_runS (As := [.int x26]) (rest := []) ⟨hx, hb, hml, hown, hts⟩ (c_X7_isMore l dC dI dA κ B g x26) (va_cwS 1 hts gX7_parse_X7_isMore rfl rfl rfl (by decide +kernel) ⟨Nat.le_of_ble_eq_true rfl, Nat.le_of_ble_eq_true rfl⟩) (hp_preS [.int x26] hK hN hW hJ) rfl rfl hl.1 rfl (lv_room (Nat.le_of_ble_eq_true rfl)) dX7_parse_198 ⟨Nat.zero_le _, Nat.zero_le _⟩) hJ (fun x97 g96 H locs hp hJ => ?_)
                  obtain ⟨rfl, f98⟩ := hp
                  refine hq_if_eq (tgt := 219) hx hb dX7_parse_201 (by decide) (fun c99 => ?_) (fun c99 => ?_)
                  · exact ct45  _ _ ls (by omega) hJ (lv_sub hl [1, 2, 3, 4, 5] rfl)
                  · refine lv_aload_n hx hb dX7_parse_204 rfl (lv_at hl 1 rfl) ?_
                    refine hp_getr (C := RX7) (T := TX7) (N := 24) (ci := 7) (kd := 11) hx hb hts iX7_parse_X7 hown hK hJ k0 rfl rfl 18 (by decide) (hts (.fieldLink RX7 61 "NeighborBookModel" "sizes" "[I") (List.mem_of_getElem? (i := 1) rfl)) (fun _ h9 => h9) rfl dX7_parse_205 (fun b100 kb100 => ?_)
                    refine hq_bipush hx hb dX7_parse_208 (by decide) (fun z101 ez101 => ?_)
                    refine lv_iload_n hx hb dX7_parse_210 rfl (lv_at hl 4 rfl) ?_
                    refine hq_iadd hx hb dX7_parse_211 (by omega) (by omega) (fun x102 ex102 => ?_)
                    refine hp_iald (kd := 29) (n := 117) hx hb hK hJ kb100 rfl (by omega) (by omega) (sp := (3, 60)) rfl rfl dX7_parse_212 (fun x103 ex103 => ?_)
                    have ex103 : -1 ≤ x103.toInt ∧ x103.toInt ≤ 60 := ex103
                    refine hq_iconst hx hb dX7_parse_213 (by decide) (by decide) (fun z104 ez104 => ?_)
                    refine hq_icmp_eq (tgt := 219) hx hb dX7_parse_214 (by decide) (fun c105 => ?_) (fun c105 => ?_)
                    · exact ct45  _ _ ls (by omega) hJ (lv_sub hl [1, 2, 3, 4, 5] rfl)
                    · refine hq_iconst hx hb dX7_parse_217 (by decide) (by decide) (fun z106 ez106 => ?_)
                      exact hp_iret hx hb hK hN hW hlocks hJ hr rfl dX7_parse_218
                · refine hq_iconst hx hb dX7_parse_195 (by decide) (by decide) (fun z107 ez107 => ?_)
                  exact hp_iret hx hb hK hN hW hlocks hJ hr rfl dX7_parse_196
              have ct108 : ∀ (H : Heap) (locs : List Loc) (ls : Array Slot), (0 ≤ x39.toInt) → hp_J dC dI dA κ B g s.heap H locs → lv_has ls 7 [(0, .ref h0), (1, .int x40), (2, .int v12), (3, .int x26), (4, .int x39)] → W p l e (headSpec wsX7_parse ({ frames := 1, cells := 0, slots := 0, locals := 20 } : Room)).room s m ([Value.ref h0] : List Value).toArray below meth c H locs 0 0 (MQ below (hp_Qi dC dI dA κ B (fun r u => g = u)) ([Value.ref h0] : List Value).toArray s 0 0 (hp_A B)) (F0 m 108 ls []) := by
                intro  H locs ls iv109 hJ hl
                refine lv_iload_n hx hb dX7_parse_108 rfl (lv_at hl 3 rfl) ?_
                refine hq_if_ne (tgt := 125) hx hb dX7_parse_109 (by decide) (fun c110 => ?_) (fun c110 => ?_)
                · refine lv_iload_n hx hb dX7_parse_125 rfl (lv_at hl 3 rfl) ?_
                  refine hq_iconst hx hb dX7_parse_126 (by decide) (by decide) (fun z111 ez111 => ?_)
                  refine hq_icmp_ge (tgt := 151) hx hb dX7_parse_127 (by decide) (fun c112 => ?_) (fun c112 => ?_)
                  · refine lv_iload_n hx hb dX7_parse_151 rfl (lv_at hl 3 rfl) ?_
                    refine hq_iconst hx hb dX7_parse_152 (by decide) (by decide) (fun z113 ez113 => ?_)
                    refine hq_icmp_ne (tgt := 170) hx hb dX7_parse_153 (by decide) (fun c114 => ?_) (fun c114 => ?_)
                    · refine lv_iload_n hx hb dX7_parse_170 rfl (lv_at hl 3 rfl) ?_
                      refine hq_bipush hx hb dX7_parse_171 (by decide) (fun z115 ez115 => ?_)
                      refine hq_icmp_gt (tgt := 183) hx hb dX7_parse_173 (by decide) (fun c116 => ?_) (fun c116 => ?_)
                      · refine hq_iconst hx hb dX7_parse_183 (by decide) (by decide) (fun z117 ez117 => ?_)
                        refine lv_goto (tgt := 188) hx hb dX7_parse_184 (by decide) ?_
                        exact ct93 z117 _ _ ls (by omega) hJ (lv_sub hl [0, 1, 2, 3, 4] rfl)
                      · refine lv_iload hx hb dX7_parse_176 (lv_at hl 4 rfl) ?_
                        refine hq_bipush hx hb dX7_parse_178 (by decide) (fun z118 ez118 => ?_)
                        refine hq_icmp_gt (tgt := 187) hx hb dX7_parse_180 (by decide) (fun c119 => ?_) (fun c119 => ?_)
                        · refine hq_iconst hx hb dX7_parse_187 (by decide) (by decide) (fun z120 ez120 => ?_)
                          exact ct93 z120 _ _ ls (by omega) hJ (lv_sub hl [0, 1, 2, 3, 4] rfl)
                        · refine hq_iconst hx hb dX7_parse_183 (by decide) (by decide) (fun z121 ez121 => ?_)
                          refine lv_goto (tgt := 188) hx hb dX7_parse_184 (by decide) ?_
                          exact ct93 z121 _ _ ls (by omega) hJ (lv_sub hl [0, 1, 2, 3, 4] rfl)
                    · refine lv_iload hx hb dX7_parse_156 (lv_at hl 4 rfl) ?_
                      refine hq_iconst hx hb dX7_parse_158 (by decide) (by decide) (fun z122 ez122 => ?_)
                      refine hq_icmp_lt (tgt := 166) hx hb dX7_parse_159 (by decide) (fun c123 => ?_) (fun c123 => ?_)
                      · refine hq_iconst hx hb dX7_parse_166 (by decide) (by decide) (fun z124 ez124 => ?_)
                        refine lv_goto (tgt := 188) hx hb dX7_parse_167 (by decide) ?_
                        exact ct93 z124 _ _ ls (by omega) hJ (lv_sub hl [0, 1, 2, 3, 4] rfl)
                      · refine hq_iconst hx hb dX7_parse_162 (by decide) (by decide) (fun z125 ez125 => ?_)
                        refine lv_goto (tgt := 188) hx hb dX7_parse_163 (by decide) ?_
                        exact ct93 z125 _ _ ls (by omega) hJ (lv_sub hl [0, 1, 2, 3, 4] rfl)
                  · refine lv_iload hx hb dX7_parse_130 (lv_at hl 4 rfl) ?_
                    refine hq_iconst hx hb dX7_parse_132 (by decide) (by decide) (fun z126 ez126 => ?_)
                    refine hq_icmp_lt (tgt := 147) hx hb dX7_parse_133 (by decide) (fun c127 => ?_) (fun c127 => ?_)
                    · refine hq_iconst hx hb dX7_parse_147 (by decide) (by decide) (fun z128 ez128 => ?_)
                      refine lv_goto (tgt := 188) hx hb dX7_parse_148 (by decide) ?_
                      exact ct93 z128 _ _ ls (by omega) hJ (lv_sub hl [0, 1, 2, 3, 4] rfl)
                    · refine lv_iload hx hb dX7_parse_136 (lv_at hl 4 rfl) ?_
                      refine hq_bipush hx hb dX7_parse_138 (by decide) (fun z129 ez129 => ?_)
                      refine hq_icmp_gt (tgt := 147) hx hb dX7_parse_140 (by decide) (fun c130 => ?_) (fun c130 => ?_)
                      · refine hq_iconst hx hb dX7_parse_147 (by decide) (by decide) (fun z131 ez131 => ?_)
                        refine lv_goto (tgt := 188) hx hb dX7_parse_148 (by decide) ?_
                        exact ct93 z131 _ _ ls (by omega) hJ (lv_sub hl [0, 1, 2, 3, 4] rfl)
                      · refine hq_iconst hx hb dX7_parse_143 (by decide) (by decide) (fun z132 ez132 => ?_)
                        refine lv_goto (tgt := 188) hx hb dX7_parse_144 (by decide) ?_
                        exact ct93 z132 _ _ ls (by omega) hJ (lv_sub hl [0, 1, 2, 3, 4] rfl)
                · refine lv_iload hx hb dX7_parse_112 (lv_at hl 4 rfl) ?_
                  refine hq_if_ne (tgt := 121) hx hb dX7_parse_114 (by decide) (fun c133 => ?_) (fun c133 => ?_)
                  · refine hq_iconst hx hb dX7_parse_121 (by decide) (by decide) (fun z134 ez134 => ?_)
                    refine lv_goto (tgt := 188) hx hb dX7_parse_122 (by decide) ?_
                    exact ct93 z134 _ _ ls (by omega) hJ (lv_sub hl [0, 1, 2, 3, 4] rfl)
                  · refine hq_iconst hx hb dX7_parse_117 (by decide) (by decide) (fun z135 ez135 => ?_)
                    refine lv_goto (tgt := 188) hx hb dX7_parse_118 (by decide) ?_
                    exact ct93 z135 _ _ ls (by omega) hJ (lv_sub hl [0, 1, 2, 3, 4] rfl)
              refine lv_iload_n hx hb dX7_parse_81 rfl (lv_at hl 4 rfl) ?_
              refine hq_iconst hx hb dX7_parse_82 (by decide) (by decide) (fun z136 ez136 => ?_)
              refine hq_icmp_ge (tgt := 96) hx hb dX7_parse_83 (by decide) (fun c137 => ?_) (fun c137 => ?_)
              · refine lv_iload_n hx hb dX7_parse_96 rfl (lv_at hl 2 rfl) ?_
                refine hq_iconst hx hb dX7_parse_97 (by decide) (by decide) (fun z138 ez138 => ?_)
                refine hq_icmp_lt (tgt := 108) hx hb dX7_parse_98 (by decide) (fun c139 => ?_) (fun c139 => ?_)
                · exact ct108  _ _ ls (by omega) hJ (lv_sub hl [3, 0, 4, 2, 1] rfl)
                · refine lv_iload_n hx hb dX7_parse_101 rfl (lv_at hl 2 rfl) ?_
                  refine hq_iconst hx hb dX7_parse_102 (by decide) (by decide) (fun z140 ez140 => ?_)
                  refine hq_icmp_gt (tgt := 108) hx hb dX7_parse_103 (by decide) (fun c141 => ?_) (fun c141 => ?_)
                  · exact ct108  _ _ ls (by omega) hJ (lv_sub hl [3, 0, 4, 2, 1] rfl)
                  · refine hq_iconst hx hb dX7_parse_106 (by decide) (by decide) (fun z142 ez142 => ?_)
                    exact hp_iret hx hb hK hN hW hlocks hJ hr rfl dX7_parse_107
              · refine lv_iload_n hx hb dX7_parse_86 rfl (lv_at hl 2 rfl) ?_
                refine lv_iload_n hx hb dX7_parse_87 rfl (lv_at hl 4 rfl) ?_
                refine hq_iconst hx hb dX7_parse_88 (by decide) (by decide) (fun z143 ez143 => ?_)
                refine hq_iaddU hx hb dX7_parse_89 (fun x144 => ?_)
                refine hq_icmp_eq (tgt := 108) hx hb dX7_parse_90 (by decide) (fun c145 => ?_) (fun c145 => ?_)
                · exact ct108  _ _ ls (by omega) hJ (lv_sub hl [3, 0, 4, 2, 1] rfl)
                · refine lv_goto (tgt := 106) hx hb dX7_parse_93 (by decide) ?_
                  refine hq_iconst hx hb dX7_parse_106 (by decide) (by decide) (fun z146 ez146 => ?_)
                  exact hp_iret hx hb hK hN hW hlocks hJ hr rfl dX7_parse_107
            · refine hq_iconst hx hb dX7_parse_38 (by decide) (by decide) (fun z147 ez147 => ?_)
              exact hp_iret hx hb hK hN hW hlocks hJ hr rfl dX7_parse_39
        exact lp13 ((701 - z9.toInt).toNat + 1) z9 z10 _ _ ls (by omega) (by omega) (by omega) hJ (lv_sub hl [2, 1, 0] rfl)
      · refine lv_aload_n hx hb dX7_parse_8 rfl (lv_at hl 0 rfl) ?_
        refine hp_getr (C := RX7) (T := TX7) (N := 24) (ci := 7) (kd := 11) hx hb hts iX7_parse_X7 hown hK hJ k0 rfl rfl 18 (by decide) (hts (.fieldLink RX7 61 "NeighborBookModel" "sizes" "[I") (List.mem_of_getElem? (i := 1) rfl)) (fun _ h9 => h9) rfl dX7_parse_9 (fun b148 kb148 => ?_)
        refine hq_bipush hx hb dX7_parse_12 (by decide) (fun z149 ez149 => ?_)
        refine lv_iload_n hx hb dX7_parse_14 rfl (lv_at hl 1 rfl) ?_
        refine hq_iadd hx hb dX7_parse_15 (by omega) (by omega) (fun x150 ex150 => ?_)
        refine hq_iconst hx hb dX7_parse_16 (by decide) (by decide) (fun z151 ez151 => ?_)
        refine hp_iast (kd := 29) (n := 117) hx hb hK hJ kb148 rfl (by omega) (by omega) (by decide) hW (sp := (3, 60)) rfl rfl (show _ ∧ _ from by constructor <;> omega) dX7_parse_17 (fun H locs hJ => ?_)
        refine hq_iinc (k := 1) (lv' := fun (z9 : Int32) => [(1, .int z9), (0, .ref h0)]) hx hb dX7_parse_18 hl rfl (by decide) (by decide) (by omega) (by omega) (by decide) (fun _ => rfl) (fun x152 ls ex152 hl => ?_)
        have hl : lv_has ls 7 [(1, .int x152), (0, .ref h0)] := hl
        refine lv_goto (tgt := 2) hx hb dX7_parse_21 (by decide) ?_
        exact ihlp3 x152 _ _ ls (by omega) (by omega) (by omega) hJ (lv_sub hl [1, 0] rfl)
  exact lp3 ((10 - z1.toInt).toNat + 1) z1 _ _ ls (by omega) (by omega) (by omega) hJ (lv_sub hl [1, 0] rfl)
