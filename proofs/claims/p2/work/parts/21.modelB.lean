theorem iX7_move_X7 : ∀ w ∈ wsX70, w ∈ wsX7_move := fun _ h => List.mem_cons_of_mem _ (List.mem_append_right _ h)
set_option maxRecDepth 100000 in
set_option maxHeartbeats 4000000 in
theorem c_X7_move (l : Launch) (dC : Nat → ClassId) (dI : Nat → Nat → Nat) (dA : Nat → ClassId) (κ : Nat → Nat) (B : Nat) (g : Nat → Nat → Int) (h0 : Nat) (k0 : κ h0 = 11) (frm : Int32) (to : Int32) (hf0 : 0 ≤ frm.toInt) (hf1 : frm.toInt ≤ 12) (ht0 : 0 ≤ to.toInt) (ht1 : to.toInt ≤ 12) : Met l yX7_move wsX7_move ({ frames := 0, cells := 0, slots := 0, locals := 0 } : Room) (hp_Pre dC dI dA κ B g [Value.ref h0, Value.int frm, Value.int to]) (hp_Qv dC dI dA κ B (fun u => g = u)) 0 0 (hp_A B) := by
  refine Met.ofW (cc := cX7_move) (maxL := 5) (ret := none) (by decide) rfl ?_
  intro p e s m args below meth c s₁ Bd hml hv
  obtain ⟨rfl, hK, hN, hW, hF⟩ := hv
  have hx := Bd.exec
  have hb := Bd.bytes
  have hr := Bd.returns
  have hts := atoms_spec (ws := wsX7_move) Bd.pre
  have hown : s.vm.findClass RX7 = some m.cls := findClass_of_methodNamed Bd.named
  have hlocks := Bd.notSynchronized
  have hJ : hp_J dC dI dA κ B g s.heap s.heap [] := ⟨hF, va_S.rf⟩
  have hl := lv_entry ([Value.ref h0, Value.int frm, Value.int to]) (n := 5) (Nat.le_of_ble_eq_true rfl)
  rw [lg_entry_eq]
  generalize (lg_sl ([Value.ref h0, Value.int frm, Value.int to]) ++ List.replicate (5 - (lg_sl ([Value.ref h0, Value.int frm, Value.int to])).length) Slot.unset).toArray = ls at hl ⊢
  have hl : lv_has ls 5 [(0, .ref h0), (1, .int frm), (2, .int to)] := hl
  refine lv_aload_n hx hb dX7_move_0 rfl (lv_at hl 0 rfl) ?_
  refine hp_getr (C := RX7) (T := TX7) (N := 24) (ci := 7) (kd := 11) hx hb hts iX7_move_X7 hown hK hJ k0 rfl rfl 14 (by decide) (hts (.fieldLink RX7 49 "NeighborBookModel" "ports" "[I") (List.mem_of_getElem? (i := 1) rfl)) (fun _ h9 => h9) rfl dX7_move_1 (fun b1 kb1 => ?_)
  refine lv_iload_n hx hb dX7_move_4 rfl (lv_at hl 2 rfl) ?_
  refine lv_aload_n hx hb dX7_move_5 rfl (lv_at hl 0 rfl) ?_
  refine hp_getr (C := RX7) (T := TX7) (N := 24) (ci := 7) (kd := 11) hx hb hts iX7_move_X7 hown hK hJ k0 rfl rfl 14 (by decide) (hts (.fieldLink RX7 49 "NeighborBookModel" "ports" "[I") (List.mem_of_getElem? (i := 1) rfl)) (fun _ h9 => h9) rfl dX7_move_6 (fun b2 kb2 => ?_)
  refine lv_iload_n hx hb dX7_move_9 rfl (lv_at hl 1 rfl) ?_
  refine hp_iald (kd := 26) (n := 13) hx hb hK hJ kb2 rfl (by omega) (by omega) (sp := (2, 3)) rfl rfl dX7_move_10 (fun x3 ex3 => ?_)
  have ex3 : 0 ≤ x3.toInt ∧ x3.toInt ≤ 3 := ex3
  refine hp_iast (kd := 26) (n := 13) hx hb hK hJ kb1 rfl (by omega) (by omega) (by decide) hW (sp := (2, 3)) rfl rfl (show _ ∧ _ from by constructor <;> omega) dX7_move_11 (fun H locs hJ => ?_)
  refine lv_aload_n hx hb dX7_move_12 rfl (lv_at hl 0 rfl) ?_
  refine hp_getr (C := RX7) (T := TX7) (N := 24) (ci := 7) (kd := 11) hx hb hts iX7_move_X7 hown hK hJ k0 rfl rfl 15 (by decide) (hts (.fieldLink RX7 52 "NeighborBookModel" "left" "[I") (List.mem_of_getElem? (i := 2) rfl)) (fun _ h9 => h9) rfl dX7_move_13 (fun b4 kb4 => ?_)
  refine lv_iload_n hx hb dX7_move_16 rfl (lv_at hl 2 rfl) ?_
  refine lv_aload_n hx hb dX7_move_17 rfl (lv_at hl 0 rfl) ?_
  refine hp_getr (C := RX7) (T := TX7) (N := 24) (ci := 7) (kd := 11) hx hb hts iX7_move_X7 hown hK hJ k0 rfl rfl 15 (by decide) (hts (.fieldLink RX7 52 "NeighborBookModel" "left" "[I") (List.mem_of_getElem? (i := 2) rfl)) (fun _ h9 => h9) rfl dX7_move_18 (fun b5 kb5 => ?_)
  refine lv_iload_n hx hb dX7_move_21 rfl (lv_at hl 1 rfl) ?_
  refine hp_iald (kd := 27) (n := 13) hx hb hK hJ kb5 rfl (by omega) (by omega) (sp := (1, 0)) rfl rfl dX7_move_22 (fun x6 ex6 => ?_)
  refine hp_iast (kd := 27) (n := 13) hx hb hK hJ kb4 rfl (by omega) (by omega) (by decide) hW (sp := (1, 0)) rfl rfl trivial dX7_move_23 (fun H locs hJ => ?_)
  refine lv_aload_n hx hb dX7_move_24 rfl (lv_at hl 0 rfl) ?_
  refine hp_getr (C := RX7) (T := TX7) (N := 24) (ci := 7) (kd := 11) hx hb hts iX7_move_X7 hown hK hJ k0 rfl rfl 16 (by decide) (hts (.fieldLink RX7 55 "NeighborBookModel" "frames" "[I") (List.mem_of_getElem? (i := 3) rfl)) (fun _ h9 => h9) rfl dX7_move_25 (fun b7 kb7 => ?_)
  refine lv_iload_n hx hb dX7_move_28 rfl (lv_at hl 2 rfl) ?_
  refine lv_aload_n hx hb dX7_move_29 rfl (lv_at hl 0 rfl) ?_
  refine hp_getr (C := RX7) (T := TX7) (N := 24) (ci := 7) (kd := 11) hx hb hts iX7_move_X7 hown hK hJ k0 rfl rfl 16 (by decide) (hts (.fieldLink RX7 55 "NeighborBookModel" "frames" "[I") (List.mem_of_getElem? (i := 3) rfl)) (fun _ h9 => h9) rfl dX7_move_30 (fun b8 kb8 => ?_)
  refine lv_iload_n hx hb dX7_move_33 rfl (lv_at hl 1 rfl) ?_
  refine hp_iald (kd := 27) (n := 13) hx hb hK hJ kb8 rfl (by omega) (by omega) (sp := (1, 0)) rfl rfl dX7_move_34 (fun x9 ex9 => ?_)
  refine hp_iast (kd := 27) (n := 13) hx hb hK hJ kb7 rfl (by omega) (by omega) (by decide) hW (sp := (1, 0)) rfl rfl trivial dX7_move_35 (fun H locs hJ => ?_)
  refine hq_iconst hx hb dX7_move_36 (by decide) (by decide) (fun z10 ez10 => ?_)
  refine lv_istore_n (lv' := [(3, .int z10), (0, .ref h0), (1, .int frm), (2, .int to)]) hx hb dX7_move_37 rfl hl (by decide) rfl (fun ls hl => ?_)
  have lp12 : ∀ (nlp12 : Nat) (v11 : Int32) (H : Heap) (locs : List Loc) (ls : Array Slot), (0 ≤ v11.toInt) → (v11.toInt ≤ 9) → (10 - v11.toInt < (nlp12 : Int)) → hp_J dC dI dA κ B g s.heap H locs → lv_has ls 5 [(0, .ref h0), (1, .int frm), (2, .int to), (3, .int v11)] → W p l e (headSpec wsX7_move ({ frames := 0, cells := 0, slots := 0, locals := 0 } : Room)).room s m ([Value.ref h0, Value.int frm, Value.int to] : List Value).toArray below meth c H locs 0 0 (MQ below (hp_Qv dC dI dA κ B (fun u => g = u)) ([Value.ref h0, Value.int frm, Value.int to] : List Value).toArray s 0 0 (hp_A B)) (F0 m 38 ls []) := by
    intro nlp12
    induction nlp12 with
    | zero => intro v11 H locs ls iv14 iv15 hm13 hJ hl; exact absurd hm13 (by omega)
    | succ nlp12 ihlp12 =>
      intro v11 H locs ls iv14 iv15 hm13 hJ hl
      refine lv_iload_n hx hb dX7_move_38 rfl (lv_at hl 3 rfl) ?_
      refine hq_bipush hx hb dX7_move_39 (by decide) (fun z16 ez16 => ?_)
      refine hq_icmp_ge (tgt := 122) hx hb dX7_move_41 (by decide) (fun c17 => ?_) (fun c17 => ?_)
      · exact hp_vret hx hb hK hN hW hlocks hJ hr rfl dX7_move_122
      · refine lv_aload_n hx hb dX7_move_44 rfl (lv_at hl 0 rfl) ?_
        refine hp_getr (C := RX7) (T := TX7) (N := 24) (ci := 7) (kd := 11) hx hb hts iX7_move_X7 hown hK hJ k0 rfl rfl 18 (by decide) (hts (.fieldLink RX7 61 "NeighborBookModel" "sizes" "[I") (List.mem_of_getElem? (i := 4) rfl)) (fun _ h9 => h9) rfl dX7_move_45 (fun b18 kb18 => ?_)
        refine hq_bipush hx hb dX7_move_48 (by decide) (fun z19 ez19 => ?_)
        refine lv_iload_n hx hb dX7_move_50 rfl (lv_at hl 2 rfl) ?_
        refine hq_imul (w := 9 * to.toInt) hx hb dX7_move_51 (by rw [ez19]) (by omega) (by omega) (fun x20 ex20 => ?_)
        refine lv_iload_n hx hb dX7_move_52 rfl (lv_at hl 3 rfl) ?_
        refine hq_iadd hx hb dX7_move_53 (by omega) (by omega) (fun x21 ex21 => ?_)
        refine lv_aload_n hx hb dX7_move_54 rfl (lv_at hl 0 rfl) ?_
        refine hp_getr (C := RX7) (T := TX7) (N := 24) (ci := 7) (kd := 11) hx hb hts iX7_move_X7 hown hK hJ k0 rfl rfl 18 (by decide) (hts (.fieldLink RX7 61 "NeighborBookModel" "sizes" "[I") (List.mem_of_getElem? (i := 4) rfl)) (fun _ h9 => h9) rfl dX7_move_55 (fun b22 kb22 => ?_)
        refine hq_bipush hx hb dX7_move_58 (by decide) (fun z23 ez23 => ?_)
        refine lv_iload_n hx hb dX7_move_60 rfl (lv_at hl 1 rfl) ?_
        refine hq_imul (w := 9 * frm.toInt) hx hb dX7_move_61 (by rw [ez23]) (by omega) (by omega) (fun x24 ex24 => ?_)
        refine lv_iload_n hx hb dX7_move_62 rfl (lv_at hl 3 rfl) ?_
        refine hq_iadd hx hb dX7_move_63 (by omega) (by omega) (fun x25 ex25 => ?_)
        refine hp_iald (kd := 29) (n := 117) hx hb hK hJ kb22 rfl (by omega) (by omega) (sp := (3, 60)) rfl rfl dX7_move_64 (fun x26 ex26 => ?_)
        have ex26 : -1 ≤ x26.toInt ∧ x26.toInt ≤ 60 := ex26
        refine hp_iast (kd := 29) (n := 117) hx hb hK hJ kb18 rfl (by omega) (by omega) (by decide) hW (sp := (3, 60)) rfl rfl (show _ ∧ _ from by constructor <;> omega) dX7_move_65 (fun H locs hJ => ?_)
        refine hq_iconst hx hb dX7_move_66 (by decide) (by decide) (fun z27 ez27 => ?_)
        refine lv_istore (lv' := [(4, .int z27), (0, .ref h0), (1, .int frm), (2, .int to), (3, .int v11)]) hx hb dX7_move_67 hl (by decide) rfl (fun ls hl => ?_)
        have lp29 : ∀ (nlp29 : Nat) (v28 : Int32) (H : Heap) (locs : List Loc) (ls : Array Slot), (0 ≤ v28.toInt) → (v28.toInt ≤ 60) → (61 - v28.toInt < (nlp29 : Int)) → hp_J dC dI dA κ B g s.heap H locs → lv_has ls 5 [(0, .ref h0), (1, .int frm), (2, .int to), (3, .int v11), (4, .int v28)] → W p l e (headSpec wsX7_move ({ frames := 0, cells := 0, slots := 0, locals := 0 } : Room)).room s m ([Value.ref h0, Value.int frm, Value.int to] : List Value).toArray below meth c H locs 0 0 (MQ below (hp_Qv dC dI dA κ B (fun u => g = u)) ([Value.ref h0, Value.int frm, Value.int to] : List Value).toArray s 0 0 (hp_A B)) (F0 m 69 ls []) := by
          intro nlp29
          induction nlp29 with
          | zero => intro v28 H locs ls iv31 iv32 hm30 hJ hl; exact absurd hm30 (by omega)
          | succ nlp29 ihlp29 =>
            intro v28 H locs ls iv31 iv32 hm30 hJ hl
            refine lv_iload hx hb dX7_move_69 (lv_at hl 4 rfl) ?_
            refine hq_bipush hx hb dX7_move_71 (by decide) (fun z33 ez33 => ?_)
            refine hq_icmp_ge (tgt := 116) hx hb dX7_move_73 (by decide) (fun c34 => ?_) (fun c34 => ?_)
            · refine hq_iinc (k := 3) (lv' := fun (z9 : Int32) => [(3, .int z9), (0, .ref h0), (1, .int frm), (2, .int to), (4, .int v28)]) hx hb dX7_move_116 hl rfl (by decide) (by decide) (by omega) (by omega) (by decide) (fun _ => rfl) (fun x35 ls ex35 hl => ?_)
              have hl : lv_has ls 5 [(3, .int x35), (0, .ref h0), (1, .int frm), (2, .int to), (4, .int v28)] := hl
              refine lv_goto (tgt := 38) hx hb dX7_move_119 (by decide) ?_
              exact ihlp12 x35 _ _ ls (by omega) (by omega) (by omega) hJ (lv_sub hl [1, 2, 3, 0] rfl)
            · refine lv_aload_n hx hb dX7_move_76 rfl (lv_at hl 0 rfl) ?_
              refine hp_getr (C := RX7) (T := TX7) (N := 24) (ci := 7) (kd := 11) hx hb hts iX7_move_X7 hown hK hJ k0 rfl rfl 17 (by decide) (hts (.fieldLink RX7 58 "NeighborBookModel" "bytes" "[B") (List.mem_of_getElem? (i := 5) rfl)) (fun _ h9 => h9) rfl dX7_move_77 (fun b36 kb36 => ?_)
              refine hq_bipush hx hb dX7_move_80 (by decide) (fun z37 ez37 => ?_)
              refine lv_iload_n hx hb dX7_move_82 rfl (lv_at hl 2 rfl) ?_
              refine hq_imul (w := 9 * to.toInt) hx hb dX7_move_83 (by rw [ez37]) (by omega) (by omega) (fun x38 ex38 => ?_)
              refine lv_iload_n hx hb dX7_move_84 rfl (lv_at hl 3 rfl) ?_
              refine hq_iadd hx hb dX7_move_85 (by omega) (by omega) (fun x39 ex39 => ?_)
              refine hq_bipush hx hb dX7_move_86 (by decide) (fun z40 ez40 => ?_)
              refine hq_imul (w := x39.toInt * 60) hx hb dX7_move_88 (by rw [ez40]) (by omega) (by omega) (fun x41 ex41 => ?_)
              refine lv_iload hx hb dX7_move_89 (lv_at hl 4 rfl) ?_
              refine hq_iadd hx hb dX7_move_91 (by omega) (by omega) (fun x42 ex42 => ?_)
              refine lv_aload_n hx hb dX7_move_92 rfl (lv_at hl 0 rfl) ?_
              refine hp_getr (C := RX7) (T := TX7) (N := 24) (ci := 7) (kd := 11) hx hb hts iX7_move_X7 hown hK hJ k0 rfl rfl 17 (by decide) (hts (.fieldLink RX7 58 "NeighborBookModel" "bytes" "[B") (List.mem_of_getElem? (i := 5) rfl)) (fun _ h9 => h9) rfl dX7_move_93 (fun b43 kb43 => ?_)
              refine hq_bipush hx hb dX7_move_96 (by decide) (fun z44 ez44 => ?_)
              refine lv_iload_n hx hb dX7_move_98 rfl (lv_at hl 1 rfl) ?_
              refine hq_imul (w := 9 * frm.toInt) hx hb dX7_move_99 (by rw [ez44]) (by omega) (by omega) (fun x45 ex45 => ?_)
              refine lv_iload_n hx hb dX7_move_100 rfl (lv_at hl 3 rfl) ?_
              refine hq_iadd hx hb dX7_move_101 (by omega) (by omega) (fun x46 ex46 => ?_)
              refine hq_bipush hx hb dX7_move_102 (by decide) (fun z47 ez47 => ?_)
              refine hq_imul (w := x46.toInt * 60) hx hb dX7_move_104 (by rw [ez47]) (by omega) (by omega) (fun x48 ex48 => ?_)
              refine lv_iload hx hb dX7_move_105 (lv_at hl 4 rfl) ?_
              refine hq_iadd hx hb dX7_move_107 (by omega) (by omega) (fun x49 ex49 => ?_)
              refine hp_bald (kd := 28) (n := 7020) hx hb hK hJ kb43 rfl (by omega) (by omega) (sp := (5, 0)) rfl rfl dX7_move_108 (fun x50 ex50 => ?_)
              have ex50 : -128 ≤ x50.toInt ∧ x50.toInt ≤ 127 := ex50
              refine hp_bast (kd := 28) (n := 7020) hx hb hK hJ kb36 rfl (by omega) (by omega) (by decide) hW rfl dX7_move_109 (fun H locs hJ => ?_)
              refine hq_iinc (k := 4) (lv' := fun (z9 : Int32) => [(4, .int z9), (0, .ref h0), (1, .int frm), (2, .int to), (3, .int v11)]) hx hb dX7_move_110 hl rfl (by decide) (by decide) (by omega) (by omega) (by decide) (fun _ => rfl) (fun x51 ls ex51 hl => ?_)
              have hl : lv_has ls 5 [(4, .int x51), (0, .ref h0), (1, .int frm), (2, .int to), (3, .int v11)] := hl
              refine lv_goto (tgt := 69) hx hb dX7_move_113 (by decide) ?_
              exact ihlp29 x51 _ _ ls (by omega) (by omega) (by omega) hJ (lv_sub hl [1, 2, 3, 4, 0] rfl)
        exact lp29 ((61 - z27.toInt).toNat + 1) z27 _ _ ls (by omega) (by omega) (by omega) hJ (lv_sub hl [1, 2, 3, 4, 0] rfl)
  exact lp12 ((10 - z10.toInt).toNat + 1) z10 _ _ ls (by omega) (by omega) (by omega) hJ (lv_sub hl [1, 2, 3, 0] rfl)
theorem iX7_forget_X7 : ∀ w ∈ wsX70, w ∈ wsX7_forget := fun _ h => List.mem_cons_of_mem _ (List.mem_append_right _ h)
set_option maxRecDepth 100000 in
set_option maxHeartbeats 4000000 in
theorem c_X7_forget (l : Launch) (dC : Nat → ClassId) (dI : Nat → Nat → Nat) (dA : Nat → ClassId) (κ : Nat → Nat) (B : Nat) (g : Nat → Nat → Int) (h0 : Nat) (k0 : κ h0 = 11) (i : Int32) (hG : hg_k g) (hi0 : 0 ≤ i.toInt) (hi1 : i.toInt < g 11 13) : Met l yX7_forget wsX7_forget ({ frames := 1, cells := 0, slots := 0, locals := 24 } : Room) (hp_Pre dC dI dA κ B g [Value.ref h0, Value.int i]) (hp_Qv dC dI dA κ B (fun u => hg_P hx_m g u ∧ hg_k u ∧ u 11 13 = g 11 13 - 1 ∧ u 11 22 = g 11 22)) 0 0 (hp_A B) := by
  refine Met.ofW (cc := cX7_forget) (maxL := 3) (ret := none) (by decide) rfl ?_
  intro p e s m args below meth c s₁ Bd hml hv
  obtain ⟨rfl, hK, hN, hW, hF⟩ := hv
  have hx := Bd.exec
  have hb := Bd.bytes
  have hr := Bd.returns
  have hts := atoms_spec (ws := wsX7_forget) Bd.pre
  have hown : s.vm.findClass RX7 = some m.cls := findClass_of_methodNamed Bd.named
  have hlocks := Bd.notSynchronized
  have hJ : hp_J dC dI dA κ B g s.heap s.heap [] := ⟨hF, va_S.rf⟩
  have hl := lv_entry ([Value.ref h0, Value.int i]) (n := 3) (Nat.le_of_ble_eq_true rfl)
  rw [lg_entry_eq]
  generalize (lg_sl ([Value.ref h0, Value.int i]) ++ List.replicate (3 - (lg_sl ([Value.ref h0, Value.int i])).length) Slot.unset).toArray = ls at hl ⊢
  have hl : lv_has ls 3 [(0, .ref h0), (1, .int i)] := hl
  obtain ⟨hG1, hG2, hG3, hG4, hG5, hG6, hG7, hG8⟩ := id hG
  refine lv_iload_n hx hb dX7_forget_0 rfl (lv_at hl 1 rfl) ?_
  refine hq_iconst hx hb dX7_forget_1 (by decide) (by decide) (fun z1 ez1 => ?_)
  refine hq_iadd hx hb dX7_forget_2 (by omega) (by omega) (fun x2 ex2 => ?_)
  refine lv_istore_n (lv' := [(2, .int x2), (0, .ref h0), (1, .int i)]) hx hb dX7_forget_3 rfl hl (by decide) rfl (fun ls hl => ?_)
  have lp4 : ∀ (nlp4 : Nat) (v3 : Int32) (H : Heap) (locs : List Loc) (ls : Array Slot), (1 ≤ v3.toInt) → (v3.toInt ≤ 12) → (13 - v3.toInt < (nlp4 : Int)) → hp_J dC dI dA κ B g s.heap H locs → lv_has ls 3 [(0, .ref h0), (1, .int i), (2, .int v3)] → W p l e (headSpec wsX7_forget ({ frames := 1, cells := 0, slots := 0, locals := 24 } : Room)).room s m ([Value.ref h0, Value.int i] : List Value).toArray below meth c H locs 0 0 (MQ below (hp_Qv dC dI dA κ B (fun u => hg_P hx_m g u ∧ hg_k u ∧ u 11 13 = g 11 13 - 1 ∧ u 11 22 = g 11 22)) ([Value.ref h0, Value.int i] : List Value).toArray s 0 0 (hp_A B)) (F0 m 4 ls []) := by
    intro nlp4
    induction nlp4 with
    | zero => intro v3 H locs ls iv6 iv7 hm5 hJ hl; exact absurd hm5 (by omega)
    | succ nlp4 ihlp4 =>
      intro v3 H locs ls iv6 iv7 hm5 hJ hl
      refine lv_iload_n hx hb dX7_forget_4 rfl (lv_at hl 2 rfl) ?_
      refine lv_aload_n hx hb dX7_forget_5 rfl (lv_at hl 0 rfl) ?_
      refine hp_geti (C := RX7) (T := TX7) (N := 24) (ci := 7) (kd := 11) hx hb hts iX7_forget_X7 hown hK hJ k0 rfl rfl 13 (by decide) (hts (.fieldLink RX7 91 "NeighborBookModel" "known" "I") (List.mem_of_getElem? (i := 1) rfl)) (fun _ h9 => h9) rfl rfl dX7_forget_6 (fun x8 ex8 => ?_)
      have ex8 : x8.toInt = g 11 13 := ex8
      refine hq_icmp_ge (tgt := 26) hx hb dX7_forget_9 (by decide) (fun c9 => ?_) (fun c9 => ?_)
      · refine lv_aload_n hx hb dX7_forget_26 rfl (lv_at hl 0 rfl) ?_
        refine lv_dup hx hb dX7_forget_27 rfl ?_
        refine hp_geti (C := RX7) (T := TX7) (N := 24) (ci := 7) (kd := 11) hx hb hts iX7_forget_X7 hown hK hJ k0 rfl rfl 13 (by decide) (hts (.fieldLink RX7 91 "NeighborBookModel" "known" "I") (List.mem_of_getElem? (i := 1) rfl)) (fun _ h9 => h9) rfl rfl dX7_forget_28 (fun x10 ex10 => ?_)
        have ex10 : x10.toInt = g 11 13 := ex10
        refine hq_iconst hx hb dX7_forget_31 (by decide) (by decide) (fun z11 ez11 => ?_)
        refine hq_isub hx hb dX7_forget_32 (by omega) (by omega) (fun x12 ex12 => ?_)
        refine hp_putx (C := RX7) (T := TX7) (N := 24) (ci := 7) (kd := 11) hx hb hts iX7_forget_X7 hown hK hJ k0 rfl rfl 13 (by decide) (hts (.fieldLink RX7 91 "NeighborBookModel" "known" "I") (List.mem_of_getElem? (i := 1) rfl)) (fun _ h9 => h9) tyX7 tyX7_ok nmX7 (x := x12) rfl rfl (by decide) hW rfl rfl rfl dX7_forget_33 (fun g13 H locs eg13 ng13 hJ => ?_)
        have eg13 : g13 11 13 = x12.toInt := eg13
        have P14 : hg_P hx_m g g13 := hg_P.put hg_P.rf ng13 rfl
        have tt15 : g13 11 1 = g 11 1 := ng13 11 1 (by decide)
        have tt16 : g13 11 22 = g 11 22 := ng13 11 22 (by decide)
        exact hp_vret hx hb hK hN hW hlocks hJ hr ⟨P14, (hg_k.ofm hG P14 (by constructor <;> omega) (by constructor <;> omega) ), by omega⟩ dX7_forget_36
      · refine lv_aload_n hx hb dX7_forget_12 rfl (lv_at hl 0 rfl) ?_
        refine lv_iload_n hx hb dX7_forget_13 rfl (lv_at hl 2 rfl) ?_
        refine lv_iload_n hx hb dX7_forget_14 rfl (lv_at hl 2 rfl) ?_
        refine hq_iconst hx hb dX7_forget_15 (by decide) (by decide) (fun z17 ez17 => ?_)
        refine hq_isub hx hb dX7_forget_16 (by omega) (by omega) (fun x18 ex18 => ?_)
        refine hp_callv (va_runV (As := [.int v3, .int x18]) (rest := []) ⟨hx, hb, hml, hown, hts⟩ (c_X7_move l dC dI dA κ B g h0 k0 v3 x18 (by omega) (by omega) (by omega) (by omega)) (cwV 2 hts gX7_forget_X7_move rfl rfl rfl (by decide +kernel) ⟨Nat.le_of_ble_eq_true rfl, Nat.le_of_ble_eq_true rfl⟩) (hp_preV (q := (RX7, TX7, 24)) [.int v3, .int x18] hK hN hW hJ k0 rfl rfl) rfl rfl hl.1 rfl (lv_room (Nat.le_of_ble_eq_true rfl)) dX7_forget_17 ⟨Nat.zero_le _, Nat.zero_le _⟩) hJ (fun g19 H locs hp hJ => ?_)
        subst hp
        refine hq_iinc (k := 2) (lv' := fun (z9 : Int32) => [(2, .int z9), (0, .ref h0), (1, .int i)]) hx hb dX7_forget_20 hl rfl (by decide) (by decide) (by omega) (by omega) (by decide) (fun _ => rfl) (fun x20 ls ex20 hl => ?_)
        have hl : lv_has ls 3 [(2, .int x20), (0, .ref h0), (1, .int i)] := hl
        refine lv_goto (tgt := 4) hx hb dX7_forget_23 (by decide) ?_
        exact ihlp4 x20 _ _ ls (by omega) (by omega) (by omega) hJ (lv_sub hl [1, 2, 0] rfl)
  exact lp4 ((13 - x2.toInt).toNat + 1) x2 _ _ ls (by omega) (by omega) (by omega) hJ (lv_sub hl [1, 2, 0] rfl)
theorem iX7_isAlike_X7 : ∀ w ∈ wsX70, w ∈ wsX7_isAlike := fun _ h => List.mem_cons_of_mem _ (List.mem_append_right _ h)
set_option maxRecDepth 100000 in
set_option maxHeartbeats 4000000 in
theorem c_X7_isAlike (l : Launch) (dC : Nat → ClassId) (dI : Nat → Nat → Nat) (dA : Nat → ClassId) (κ : Nat → Nat) (B : Nat) (g : Nat → Nat → Int) (h0 : Nat) (k0 : κ h0 = 11) (a : Int32) (b : Int32) (hf0 : 0 ≤ a.toInt) (hf1 : a.toInt ≤ 12) (ht0 : 0 ≤ b.toInt) (ht1 : b.toInt ≤ 12) : Met l yX7_isAlike wsX7_isAlike ({ frames := 0, cells := 0, slots := 0, locals := 0 } : Room) (hp_Pre dC dI dA κ B g [Value.ref h0, Value.int a, Value.int b]) (hp_Qi dC dI dA κ B (fun r u => g = u ∧ (r.toInt = 0 ∨ r.toInt = 1))) 0 0 (hp_A B) := by
  refine Met.ofW (cc := cX7_isAlike) (maxL := 6) (ret := (some .boolean)) (by decide) rfl ?_
  intro p e s m args below meth c s₁ Bd hml hv
  obtain ⟨rfl, hK, hN, hW, hF⟩ := hv
  have hx := Bd.exec
  have hb := Bd.bytes
  have hr := Bd.returns
  have hts := atoms_spec (ws := wsX7_isAlike) Bd.pre
  have hown : s.vm.findClass RX7 = some m.cls := findClass_of_methodNamed Bd.named
  have hlocks := Bd.notSynchronized
  have hJ : hp_J dC dI dA κ B g s.heap s.heap [] := ⟨hF, va_S.rf⟩
  have hl := lv_entry ([Value.ref h0, Value.int a, Value.int b]) (n := 6) (Nat.le_of_ble_eq_true rfl)
  rw [lg_entry_eq]
  generalize (lg_sl ([Value.ref h0, Value.int a, Value.int b]) ++ List.replicate (6 - (lg_sl ([Value.ref h0, Value.int a, Value.int b])).length) Slot.unset).toArray = ls at hl ⊢
  have hl : lv_has ls 6 [(0, .ref h0), (1, .int a), (2, .int b)] := hl
  refine lv_aload_n hx hb dX7_isAlike_0 rfl (lv_at hl 0 rfl) ?_
  refine hp_getr (C := RX7) (T := TX7) (N := 24) (ci := 7) (kd := 11) hx hb hts iX7_isAlike_X7 hown hK hJ k0 rfl rfl 14 (by decide) (hts (.fieldLink RX7 49 "NeighborBookModel" "ports" "[I") (List.mem_of_getElem? (i := 1) rfl)) (fun _ h9 => h9) rfl dX7_isAlike_1 (fun b1 kb1 => ?_)
  refine lv_iload_n hx hb dX7_isAlike_4 rfl (lv_at hl 1 rfl) ?_
  refine hp_iald (kd := 26) (n := 13) hx hb hK hJ kb1 rfl (by omega) (by omega) (sp := (2, 3)) rfl rfl dX7_isAlike_5 (fun x2 ex2 => ?_)
  have ex2 : 0 ≤ x2.toInt ∧ x2.toInt ≤ 3 := ex2
  refine lv_aload_n hx hb dX7_isAlike_6 rfl (lv_at hl 0 rfl) ?_
  refine hp_getr (C := RX7) (T := TX7) (N := 24) (ci := 7) (kd := 11) hx hb hts iX7_isAlike_X7 hown hK hJ k0 rfl rfl 14 (by decide) (hts (.fieldLink RX7 49 "NeighborBookModel" "ports" "[I") (List.mem_of_getElem? (i := 1) rfl)) (fun _ h9 => h9) rfl dX7_isAlike_7 (fun b3 kb3 => ?_)
  refine lv_iload_n hx hb dX7_isAlike_10 rfl (lv_at hl 2 rfl) ?_
  refine hp_iald (kd := 26) (n := 13) hx hb hK hJ kb3 rfl (by omega) (by omega) (sp := (2, 3)) rfl rfl dX7_isAlike_11 (fun x4 ex4 => ?_)
  have ex4 : 0 ≤ x4.toInt ∧ x4.toInt ≤ 3 := ex4
  refine hq_icmp_ne (tgt := 19) hx hb dX7_isAlike_12 (by decide) (fun c5 => ?_) (fun c5 => ?_)
  · refine hq_iconst hx hb dX7_isAlike_19 (by decide) (by decide) (fun z6 ez6 => ?_)
    refine lv_istore_n (lv' := [(3, .int z6), (0, .ref h0), (1, .int a), (2, .int b)]) hx hb dX7_isAlike_20 rfl hl (by decide) rfl (fun ls hl => ?_)
    refine hq_iconst hx hb dX7_isAlike_21 (by decide) (by decide) (fun z7 ez7 => ?_)
    refine lv_istore (lv' := [(4, .int z7), (3, .int z6), (0, .ref h0), (1, .int a), (2, .int b)]) hx hb dX7_isAlike_22 hl (by decide) rfl (fun ls hl => ?_)
    have lp10 : ∀ (nlp10 : Nat) (v8 : Int32) (v9 : Int32) (H : Heap) (locs : List Loc) (ls : Array Slot), (v8.toInt = 0 ∨ v8.toInt = 1) → (1 ≤ v9.toInt) → (v9.toInt ≤ 3) → (4 - v9.toInt < (nlp10 : Int)) → hp_J dC dI dA κ B g s.heap H locs → lv_has ls 6 [(0, .ref h0), (1, .int a), (2, .int b), (3, .int v8), (4, .int v9)] → W p l e (headSpec wsX7_isAlike ({ frames := 0, cells := 0, slots := 0, locals := 0 } : Room)).room s m ([Value.ref h0, Value.int a, Value.int b] : List Value).toArray below meth c H locs 0 0 (MQ below (hp_Qi dC dI dA κ B (fun r u => g = u ∧ (r.toInt = 0 ∨ r.toInt = 1))) ([Value.ref h0, Value.int a, Value.int b] : List Value).toArray s 0 0 (hp_A B)) (F0 m 24 ls []) := by
      intro nlp10
      induction nlp10 with
      | zero => intro v8 v9 H locs ls iv12 iv13 iv14 hm11 hJ hl; exact absurd hm11 (by omega)
      | succ nlp10 ihlp10 =>
        intro v8 v9 H locs ls iv12 iv13 iv14 hm11 hJ hl
        refine lv_iload hx hb dX7_isAlike_24 (lv_at hl 4 rfl) ?_
        refine hq_iconst hx hb dX7_isAlike_26 (by decide) (by decide) (fun z15 ez15 => ?_)
        refine hq_icmp_ge (tgt := 148) hx hb dX7_isAlike_27 (by decide) (fun c16 => ?_) (fun c16 => ?_)
        · refine lv_iload_n hx hb dX7_isAlike_148 rfl (lv_at hl 3 rfl) ?_
          exact hp_zret hx hb hK hN hW hlocks hJ hr (by omega) ⟨rfl, by omega⟩ dX7_isAlike_149
        · refine lv_iload_n hx hb dX7_isAlike_30 rfl (lv_at hl 3 rfl) ?_
          refine hq_if_eq (tgt := 65) hx hb dX7_isAlike_31 (by decide) (fun c17 => ?_) (fun c17 => ?_)
          · refine hq_iconst hx hb dX7_isAlike_65 (by decide) (by decide) (fun z18 ez18 => ?_)
            refine lv_istore_n (lv' := [(3, .int z18), (0, .ref h0), (1, .int a), (2, .int b), (4, .int v9)]) hx hb dX7_isAlike_66 rfl hl (by decide) rfl (fun ls hl => ?_)
            refine hq_iconst hx hb dX7_isAlike_67 (by decide) (by decide) (fun z19 ez19 => ?_)
            refine lv_istore (lv' := [(5, .int z19), (3, .int z18), (0, .ref h0), (1, .int a), (2, .int b), (4, .int v9)]) hx hb dX7_isAlike_68 hl (by decide) rfl (fun ls hl => ?_)
            have lp22 : ∀ (nlp22 : Nat) (v20 : Int32) (v21 : Int32) (H : Heap) (locs : List Loc) (ls : Array Slot), (v20.toInt = 0 ∨ v20.toInt = 1) → (0 ≤ v21.toInt) → (v21.toInt ≤ 60) → (61 - v21.toInt < (nlp22 : Int)) → hp_J dC dI dA κ B g s.heap H locs → lv_has ls 6 [(0, .ref h0), (1, .int a), (2, .int b), (3, .int v20), (4, .int v9), (5, .int v21)] → W p l e (headSpec wsX7_isAlike ({ frames := 0, cells := 0, slots := 0, locals := 0 } : Room)).room s m ([Value.ref h0, Value.int a, Value.int b] : List Value).toArray below meth c H locs 0 0 (MQ below (hp_Qi dC dI dA κ B (fun r u => g = u ∧ (r.toInt = 0 ∨ r.toInt = 1))) ([Value.ref h0, Value.int a, Value.int b] : List Value).toArray s 0 0 (hp_A B)) (F0 m 70 ls []) := by
              intro nlp22
              induction nlp22 with
              | zero => intro v20 v21 H locs ls iv24 iv25 iv26 hm23 hJ hl; exact absurd hm23 (by omega)
              | succ nlp22 ihlp22 =>
                intro v20 v21 H locs ls iv24 iv25 iv26 hm23 hJ hl
                refine lv_iload_n hx hb dX7_isAlike_70 rfl (lv_at hl 3 rfl) ?_
                refine hq_if_eq (tgt := 142) hx hb dX7_isAlike_71 (by decide) (fun c27 => ?_) (fun c27 => ?_)
                · refine hq_iinc (k := 4) (lv' := fun (z9 : Int32) => [(4, .int z9), (0, .ref h0), (1, .int a), (2, .int b), (3, .int v20), (5, .int v21)]) hx hb dX7_isAlike_142 hl rfl (by decide) (by decide) (by omega) (by omega) (by decide) (fun _ => rfl) (fun x28 ls ex28 hl => ?_)
                  have hl : lv_has ls 6 [(4, .int x28), (0, .ref h0), (1, .int a), (2, .int b), (3, .int v20), (5, .int v21)] := hl
                  refine lv_goto (tgt := 24) hx hb dX7_isAlike_145 (by decide) ?_
                  exact ihlp10 v20 x28 _ _ ls (by omega) (by omega) (by omega) (by omega) hJ (lv_sub hl [1, 2, 3, 4, 0] rfl)
                · refine lv_iload hx hb dX7_isAlike_74 (lv_at hl 5 rfl) ?_
                  refine lv_aload_n hx hb dX7_isAlike_76 rfl (lv_at hl 0 rfl) ?_
                  refine hp_getr (C := RX7) (T := TX7) (N := 24) (ci := 7) (kd := 11) hx hb hts iX7_isAlike_X7 hown hK hJ k0 rfl rfl 18 (by decide) (hts (.fieldLink RX7 61 "NeighborBookModel" "sizes" "[I") (List.mem_of_getElem? (i := 2) rfl)) (fun _ h9 => h9) rfl dX7_isAlike_77 (fun b29 kb29 => ?_)
                  refine hq_bipush hx hb dX7_isAlike_80 (by decide) (fun z30 ez30 => ?_)
                  refine lv_iload_n hx hb dX7_isAlike_82 rfl (lv_at hl 1 rfl) ?_
                  refine hq_imul (w := 9 * a.toInt) hx hb dX7_isAlike_83 (by rw [ez30]) (by omega) (by omega) (fun x31 ex31 => ?_)
                  refine lv_iload hx hb dX7_isAlike_84 (lv_at hl 4 rfl) ?_
                  refine hq_iadd hx hb dX7_isAlike_86 (by omega) (by omega) (fun x32 ex32 => ?_)
                  refine hp_iald (kd := 29) (n := 117) hx hb hK hJ kb29 rfl (by omega) (by omega) (sp := (3, 60)) rfl rfl dX7_isAlike_87 (fun x33 ex33 => ?_)
                  have ex33 : -1 ≤ x33.toInt ∧ x33.toInt ≤ 60 := ex33
                  refine hq_icmp_ge (tgt := 142) hx hb dX7_isAlike_88 (by decide) (fun c34 => ?_) (fun c34 => ?_)
                  · refine hq_iinc (k := 4) (lv' := fun (z9 : Int32) => [(4, .int z9), (0, .ref h0), (1, .int a), (2, .int b), (3, .int v20), (5, .int v21)]) hx hb dX7_isAlike_142 hl rfl (by decide) (by decide) (by omega) (by omega) (by decide) (fun _ => rfl) (fun x35 ls ex35 hl => ?_)
                    have hl : lv_has ls 6 [(4, .int x35), (0, .ref h0), (1, .int a), (2, .int b), (3, .int v20), (5, .int v21)] := hl
                    refine lv_goto (tgt := 24) hx hb dX7_isAlike_145 (by decide) ?_
                    exact ihlp10 v20 x35 _ _ ls (by omega) (by omega) (by omega) (by omega) hJ (lv_sub hl [1, 2, 3, 4, 0] rfl)
                  · refine lv_aload_n hx hb dX7_isAlike_91 rfl (lv_at hl 0 rfl) ?_
                    refine hp_getr (C := RX7) (T := TX7) (N := 24) (ci := 7) (kd := 11) hx hb hts iX7_isAlike_X7 hown hK hJ k0 rfl rfl 17 (by decide) (hts (.fieldLink RX7 58 "NeighborBookModel" "bytes" "[B") (List.mem_of_getElem? (i := 3) rfl)) (fun _ h9 => h9) rfl dX7_isAlike_92 (fun b36 kb36 => ?_)
                    refine hq_bipush hx hb dX7_isAlike_95 (by decide) (fun z37 ez37 => ?_)
                    refine lv_iload_n hx hb dX7_isAlike_97 rfl (lv_at hl 1 rfl) ?_
                    refine hq_imul (w := 9 * a.toInt) hx hb dX7_isAlike_98 (by rw [ez37]) (by omega) (by omega) (fun x38 ex38 => ?_)
                    refine lv_iload hx hb dX7_isAlike_99 (lv_at hl 4 rfl) ?_
                    refine hq_iadd hx hb dX7_isAlike_101 (by omega) (by omega) (fun x39 ex39 => ?_)
                    refine hq_bipush hx hb dX7_isAlike_102 (by decide) (fun z40 ez40 => ?_)
                    refine hq_imul (w := x39.toInt * 60) hx hb dX7_isAlike_104 (by rw [ez40]) (by omega) (by omega) (fun x41 ex41 => ?_)
                    refine lv_iload hx hb dX7_isAlike_105 (lv_at hl 5 rfl) ?_
                    refine hq_iadd hx hb dX7_isAlike_107 (by omega) (by omega) (fun x42 ex42 => ?_)
                    refine hp_bald (kd := 28) (n := 7020) hx hb hK hJ kb36 rfl (by omega) (by omega) (sp := (5, 0)) rfl rfl dX7_isAlike_108 (fun x43 ex43 => ?_)
                    have ex43 : -128 ≤ x43.toInt ∧ x43.toInt ≤ 127 := ex43
                    refine lv_aload_n hx hb dX7_isAlike_109 rfl (lv_at hl 0 rfl) ?_
                    refine hp_getr (C := RX7) (T := TX7) (N := 24) (ci := 7) (kd := 11) hx hb hts iX7_isAlike_X7 hown hK hJ k0 rfl rfl 17 (by decide) (hts (.fieldLink RX7 58 "NeighborBookModel" "bytes" "[B") (List.mem_of_getElem? (i := 3) rfl)) (fun _ h9 => h9) rfl dX7_isAlike_110 (fun b44 kb44 => ?_)
                    refine hq_bipush hx hb dX7_isAlike_113 (by decide) (fun z45 ez45 => ?_)
                    refine lv_iload_n hx hb dX7_isAlike_115 rfl (lv_at hl 2 rfl) ?_
                    refine hq_imul (w := 9 * b.toInt) hx hb dX7_isAlike_116 (by rw [ez45]) (by omega) (by omega) (fun x46 ex46 => ?_)
                    refine lv_iload hx hb dX7_isAlike_117 (lv_at hl 4 rfl) ?_
                    refine hq_iadd hx hb dX7_isAlike_119 (by omega) (by omega) (fun x47 ex47 => ?_)
                    refine hq_bipush hx hb dX7_isAlike_120 (by decide) (fun z48 ez48 => ?_)
                    refine hq_imul (w := x47.toInt * 60) hx hb dX7_isAlike_122 (by rw [ez48]) (by omega) (by omega) (fun x49 ex49 => ?_)
                    refine lv_iload hx hb dX7_isAlike_123 (lv_at hl 5 rfl) ?_
                    refine hq_iadd hx hb dX7_isAlike_125 (by omega) (by omega) (fun x50 ex50 => ?_)
                    refine hp_bald (kd := 28) (n := 7020) hx hb hK hJ kb44 rfl (by omega) (by omega) (sp := (5, 0)) rfl rfl dX7_isAlike_126 (fun x51 ex51 => ?_)
                    have ex51 : -128 ≤ x51.toInt ∧ x51.toInt ≤ 127 := ex51
                    refine hq_icmp_ne (tgt := 134) hx hb dX7_isAlike_127 (by decide) (fun c52 => ?_) (fun c52 => ?_)
                    · refine hq_iconst hx hb dX7_isAlike_134 (by decide) (by decide) (fun z53 ez53 => ?_)
                      refine lv_istore_n (lv' := [(3, .int z53), (0, .ref h0), (1, .int a), (2, .int b), (4, .int v9), (5, .int v21)]) hx hb dX7_isAlike_135 rfl hl (by decide) rfl (fun ls hl => ?_)
                      refine hq_iinc (k := 5) (lv' := fun (z9 : Int32) => [(5, .int z9), (3, .int z53), (0, .ref h0), (1, .int a), (2, .int b), (4, .int v9)]) hx hb dX7_isAlike_136 hl rfl (by decide) (by decide) (by omega) (by omega) (by decide) (fun _ => rfl) (fun x54 ls ex54 hl => ?_)
                      have hl : lv_has ls 6 [(5, .int x54), (3, .int z53), (0, .ref h0), (1, .int a), (2, .int b), (4, .int v9)] := hl
                      refine lv_goto (tgt := 70) hx hb dX7_isAlike_139 (by decide) ?_
                      exact ihlp22 z53 x54 _ _ ls (by omega) (by omega) (by omega) (by omega) hJ (lv_sub hl [2, 3, 4, 1, 5, 0] rfl)
                    · refine hq_iconst hx hb dX7_isAlike_130 (by decide) (by decide) (fun z55 ez55 => ?_)
                      refine lv_goto (tgt := 135) hx hb dX7_isAlike_131 (by decide) ?_
                      refine lv_istore_n (lv' := [(3, .int z55), (0, .ref h0), (1, .int a), (2, .int b), (4, .int v9), (5, .int v21)]) hx hb dX7_isAlike_135 rfl hl (by decide) rfl (fun ls hl => ?_)
                      refine hq_iinc (k := 5) (lv' := fun (z9 : Int32) => [(5, .int z9), (3, .int z55), (0, .ref h0), (1, .int a), (2, .int b), (4, .int v9)]) hx hb dX7_isAlike_136 hl rfl (by decide) (by decide) (by omega) (by omega) (by decide) (fun _ => rfl) (fun x56 ls ex56 hl => ?_)
                      have hl : lv_has ls 6 [(5, .int x56), (3, .int z55), (0, .ref h0), (1, .int a), (2, .int b), (4, .int v9)] := hl
                      refine lv_goto (tgt := 70) hx hb dX7_isAlike_139 (by decide) ?_
                      exact ihlp22 z55 x56 _ _ ls (by omega) (by omega) (by omega) (by omega) hJ (lv_sub hl [2, 3, 4, 1, 5, 0] rfl)
            exact lp22 ((61 - z19.toInt).toNat + 1) z18 z19 _ _ ls (by omega) (by omega) (by omega) (by omega) hJ (lv_sub hl [2, 3, 4, 1, 5, 0] rfl)
          · refine lv_aload_n hx hb dX7_isAlike_34 rfl (lv_at hl 0 rfl) ?_
            refine hp_getr (C := RX7) (T := TX7) (N := 24) (ci := 7) (kd := 11) hx hb hts iX7_isAlike_X7 hown hK hJ k0 rfl rfl 18 (by decide) (hts (.fieldLink RX7 61 "NeighborBookModel" "sizes" "[I") (List.mem_of_getElem? (i := 2) rfl)) (fun _ h9 => h9) rfl dX7_isAlike_35 (fun b57 kb57 => ?_)
            refine hq_bipush hx hb dX7_isAlike_38 (by decide) (fun z58 ez58 => ?_)
            refine lv_iload_n hx hb dX7_isAlike_40 rfl (lv_at hl 1 rfl) ?_
            refine hq_imul (w := 9 * a.toInt) hx hb dX7_isAlike_41 (by rw [ez58]) (by omega) (by omega) (fun x59 ex59 => ?_)
            refine lv_iload hx hb dX7_isAlike_42 (lv_at hl 4 rfl) ?_
            refine hq_iadd hx hb dX7_isAlike_44 (by omega) (by omega) (fun x60 ex60 => ?_)
            refine hp_iald (kd := 29) (n := 117) hx hb hK hJ kb57 rfl (by omega) (by omega) (sp := (3, 60)) rfl rfl dX7_isAlike_45 (fun x61 ex61 => ?_)
            have ex61 : -1 ≤ x61.toInt ∧ x61.toInt ≤ 60 := ex61
            refine lv_aload_n hx hb dX7_isAlike_46 rfl (lv_at hl 0 rfl) ?_
            refine hp_getr (C := RX7) (T := TX7) (N := 24) (ci := 7) (kd := 11) hx hb hts iX7_isAlike_X7 hown hK hJ k0 rfl rfl 18 (by decide) (hts (.fieldLink RX7 61 "NeighborBookModel" "sizes" "[I") (List.mem_of_getElem? (i := 2) rfl)) (fun _ h9 => h9) rfl dX7_isAlike_47 (fun b62 kb62 => ?_)
            refine hq_bipush hx hb dX7_isAlike_50 (by decide) (fun z63 ez63 => ?_)
            refine lv_iload_n hx hb dX7_isAlike_52 rfl (lv_at hl 2 rfl) ?_
            refine hq_imul (w := 9 * b.toInt) hx hb dX7_isAlike_53 (by rw [ez63]) (by omega) (by omega) (fun x64 ex64 => ?_)
            refine lv_iload hx hb dX7_isAlike_54 (lv_at hl 4 rfl) ?_
            refine hq_iadd hx hb dX7_isAlike_56 (by omega) (by omega) (fun x65 ex65 => ?_)
            refine hp_iald (kd := 29) (n := 117) hx hb hK hJ kb62 rfl (by omega) (by omega) (sp := (3, 60)) rfl rfl dX7_isAlike_57 (fun x66 ex66 => ?_)
            have ex66 : -1 ≤ x66.toInt ∧ x66.toInt ≤ 60 := ex66
            refine hq_icmp_ne (tgt := 65) hx hb dX7_isAlike_58 (by decide) (fun c67 => ?_) (fun c67 => ?_)
            · refine hq_iconst hx hb dX7_isAlike_65 (by decide) (by decide) (fun z68 ez68 => ?_)
              refine lv_istore_n (lv' := [(3, .int z68), (0, .ref h0), (1, .int a), (2, .int b), (4, .int v9)]) hx hb dX7_isAlike_66 rfl hl (by decide) rfl (fun ls hl => ?_)
              refine hq_iconst hx hb dX7_isAlike_67 (by decide) (by decide) (fun z69 ez69 => ?_)
              refine lv_istore (lv' := [(5, .int z69), (3, .int z68), (0, .ref h0), (1, .int a), (2, .int b), (4, .int v9)]) hx hb dX7_isAlike_68 hl (by decide) rfl (fun ls hl => ?_)
              have lp72 : ∀ (nlp72 : Nat) (v70 : Int32) (v71 : Int32) (H : Heap) (locs : List Loc) (ls : Array Slot), (v70.toInt = 0 ∨ v70.toInt = 1) → (0 ≤ v71.toInt) → (v71.toInt ≤ 60) → (61 - v71.toInt < (nlp72 : Int)) → hp_J dC dI dA κ B g s.heap H locs → lv_has ls 6 [(0, .ref h0), (1, .int a), (2, .int b), (3, .int v70), (4, .int v9), (5, .int v71)] → W p l e (headSpec wsX7_isAlike ({ frames := 0, cells := 0, slots := 0, locals := 0 } : Room)).room s m ([Value.ref h0, Value.int a, Value.int b] : List Value).toArray below meth c H locs 0 0 (MQ below (hp_Qi dC dI dA κ B (fun r u => g = u ∧ (r.toInt = 0 ∨ r.toInt = 1))) ([Value.ref h0, Value.int a, Value.int b] : List Value).toArray s 0 0 (hp_A B)) (F0 m 70 ls []) := by
                intro nlp72
                induction nlp72 with
                | zero => intro v70 v71 H locs ls iv74 iv75 iv76 hm73 hJ hl; exact absurd hm73 (by omega)
                | succ nlp72 ihlp72 =>
                  intro v70 v71 H locs ls iv74 iv75 iv76 hm73 hJ hl
                  refine lv_iload_n hx hb dX7_isAlike_70 rfl (lv_at hl 3 rfl) ?_
                  refine hq_if_eq (tgt := 142) hx hb dX7_isAlike_71 (by decide) (fun c77 => ?_) (fun c77 => ?_)
                  · refine hq_iinc (k := 4) (lv' := fun (z9 : Int32) => [(4, .int z9), (0, .ref h0), (1, .int a), (2, .int b), (3, .int v70), (5, .int v71)]) hx hb dX7_isAlike_142 hl rfl (by decide) (by decide) (by omega) (by omega) (by decide) (fun _ => rfl) (fun x78 ls ex78 hl => ?_)
                    have hl : lv_has ls 6 [(4, .int x78), (0, .ref h0), (1, .int a), (2, .int b), (3, .int v70), (5, .int v71)] := hl
                    refine lv_goto (tgt := 24) hx hb dX7_isAlike_145 (by decide) ?_
                    exact ihlp10 v70 x78 _ _ ls (by omega) (by omega) (by omega) (by omega) hJ (lv_sub hl [1, 2, 3, 4, 0] rfl)
                  · refine lv_iload hx hb dX7_isAlike_74 (lv_at hl 5 rfl) ?_
                    refine lv_aload_n hx hb dX7_isAlike_76 rfl (lv_at hl 0 rfl) ?_
                    refine hp_getr (C := RX7) (T := TX7) (N := 24) (ci := 7) (kd := 11) hx hb hts iX7_isAlike_X7 hown hK hJ k0 rfl rfl 18 (by decide) (hts (.fieldLink RX7 61 "NeighborBookModel" "sizes" "[I") (List.mem_of_getElem? (i := 2) rfl)) (fun _ h9 => h9) rfl dX7_isAlike_77 (fun b79 kb79 => ?_)
                    refine hq_bipush hx hb dX7_isAlike_80 (by decide) (fun z80 ez80 => ?_)
                    refine lv_iload_n hx hb dX7_isAlike_82 rfl (lv_at hl 1 rfl) ?_
                    refine hq_imul (w := 9 * a.toInt) hx hb dX7_isAlike_83 (by rw [ez80]) (by omega) (by omega) (fun x81 ex81 => ?_)
                    refine lv_iload hx hb dX7_isAlike_84 (lv_at hl 4 rfl) ?_
                    refine hq_iadd hx hb dX7_isAlike_86 (by omega) (by omega) (fun x82 ex82 => ?_)
                    refine hp_iald (kd := 29) (n := 117) hx hb hK hJ kb79 rfl (by omega) (by omega) (sp := (3, 60)) rfl rfl dX7_isAlike_87 (fun x83 ex83 => ?_)
                    have ex83 : -1 ≤ x83.toInt ∧ x83.toInt ≤ 60 := ex83
                    refine hq_icmp_ge (tgt := 142) hx hb dX7_isAlike_88 (by decide) (fun c84 => ?_) (fun c84 => ?_)
                    · refine hq_iinc (k := 4) (lv' := fun (z9 : Int32) => [(4, .int z9), (0, .ref h0), (1, .int a), (2, .int b), (3, .int v70), (5, .int v71)]) hx hb dX7_isAlike_142 hl rfl (by decide) (by decide) (by omega) (by omega) (by decide) (fun _ => rfl) (fun x85 ls ex85 hl => ?_)
                      have hl : lv_has ls 6 [(4, .int x85), (0, .ref h0), (1, .int a), (2, .int b), (3, .int v70), (5, .int v71)] := hl
                      refine lv_goto (tgt := 24) hx hb dX7_isAlike_145 (by decide) ?_
                      exact ihlp10 v70 x85 _ _ ls (by omega) (by omega) (by omega) (by omega) hJ (lv_sub hl [1, 2, 3, 4, 0] rfl)
                    · refine lv_aload_n hx hb dX7_isAlike_91 rfl (lv_at hl 0 rfl) ?_
                      refine hp_getr (C := RX7) (T := TX7) (N := 24) (ci := 7) (kd := 11) hx hb hts iX7_isAlike_X7 hown hK hJ k0 rfl rfl 17 (by decide) (hts (.fieldLink RX7 58 "NeighborBookModel" "bytes" "[B") (List.mem_of_getElem? (i := 3) rfl)) (fun _ h9 => h9) rfl dX7_isAlike_92 (fun b86 kb86 => ?_)
                      refine hq_bipush hx hb dX7_isAlike_95 (by decide) (fun z87 ez87 => ?_)
                      refine lv_iload_n hx hb dX7_isAlike_97 rfl (lv_at hl 1 rfl) ?_
                      refine hq_imul (w := 9 * a.toInt) hx hb dX7_isAlike_98 (by rw [ez87]) (by omega) (by omega) (fun x88 ex88 => ?_)
                      refine lv_iload hx hb dX7_isAlike_99 (lv_at hl 4 rfl) ?_
                      refine hq_iadd hx hb dX7_isAlike_101 (by omega) (by omega) (fun x89 ex89 => ?_)
                      refine hq_bipush hx hb dX7_isAlike_102 (by decide) (fun z90 ez90 => ?_)
                      refine hq_imul (w := x89.toInt * 60) hx hb dX7_isAlike_104 (by rw [ez90]) (by omega) (by omega) (fun x91 ex91 => ?_)
                      refine lv_iload hx hb dX7_isAlike_105 (lv_at hl 5 rfl) ?_
                      refine hq_iadd hx hb dX7_isAlike_107 (by omega) (by omega) (fun x92 ex92 => ?_)
                      refine hp_bald (kd := 28) (n := 7020) hx hb hK hJ kb86 rfl (by omega) (by omega) (sp := (5, 0)) rfl rfl dX7_isAlike_108 (fun x93 ex93 => ?_)
                      have ex93 : -128 ≤ x93.toInt ∧ x93.toInt ≤ 127 := ex93
                      refine lv_aload_n hx hb dX7_isAlike_109 rfl (lv_at hl 0 rfl) ?_
                      refine hp_getr (C := RX7) (T := TX7) (N := 24) (ci := 7) (kd := 11) hx hb hts iX7_isAlike_X7 hown hK hJ k0 rfl rfl 17 (by decide) (hts (.fieldLink RX7 58 "NeighborBookModel" "bytes" "[B") (List.mem_of_getElem? (i := 3) rfl)) (fun _ h9 => h9) rfl dX7_isAlike_110 (fun b94 kb94 => ?_)
                      refine hq_bipush hx hb dX7_isAlike_113 (by decide) (fun z95 ez95 => ?_)
                      refine lv_iload_n hx hb dX7_isAlike_115 rfl (lv_at hl 2 rfl) ?_
                      refine hq_imul (w := 9 * b.toInt) hx hb dX7_isAlike_116 (by rw [ez95]) (by omega) (by omega) (fun x96 ex96 => ?_)
                      refine lv_iload hx hb dX7_isAlike_117 (lv_at hl 4 rfl) ?_
                      refine hq_iadd hx hb dX7_isAlike_119 (by omega) (by omega) (fun x97 ex97 => ?_)
                      refine hq_bipush hx hb dX7_isAlike_120 (by decide) (fun z98 ez98 => ?_)
                      refine hq_imul (w := x97.toInt * 60) hx hb dX7_isAlike_122 (by rw [ez98]) (by omega) (by omega) (fun x99 ex99 => ?_)
                      refine lv_iload hx hb dX7_isAlike_123 (lv_at hl 5 rfl) ?_
                      refine hq_iadd hx hb dX7_isAlike_125 (by omega) (by omega) (fun x100 ex100 => ?_)
                      refine hp_bald (kd := 28) (n := 7020) hx hb hK hJ kb94 rfl (by omega) (by omega) (sp := (5, 0)) rfl rfl dX7_isAlike_126 (fun x101 ex101 => ?_)
                      have ex101 : -128 ≤ x101.toInt ∧ x101.toInt ≤ 127 := ex101
                      refine hq_icmp_ne (tgt := 134) hx hb dX7_isAlike_127 (by decide) (fun c102 => ?_) (fun c102 => ?_)
                      · refine hq_iconst hx hb dX7_isAlike_134 (by decide) (by decide) (fun z103 ez103 => ?_)
                        refine lv_istore_n (lv' := [(3, .int z103), (0, .ref h0), (1, .int a), (2, .int b), (4, .int v9), (5, .int v71)]) hx hb dX7_isAlike_135 rfl hl (by decide) rfl (fun ls hl => ?_)
                        refine hq_iinc (k := 5) (lv' := fun (z9 : Int32) => [(5, .int z9), (3, .int z103), (0, .ref h0), (1, .int a), (2, .int b), (4, .int v9)]) hx hb dX7_isAlike_136 hl rfl (by decide) (by decide) (by omega) (by omega) (by decide) (fun _ => rfl) (fun x104 ls ex104 hl => ?_)
                        have hl : lv_has ls 6 [(5, .int x104), (3, .int z103), (0, .ref h0), (1, .int a), (2, .int b), (4, .int v9)] := hl
                        refine lv_goto (tgt := 70) hx hb dX7_isAlike_139 (by decide) ?_
                        exact ihlp72 z103 x104 _ _ ls (by omega) (by omega) (by omega) (by omega) hJ (lv_sub hl [2, 3, 4, 1, 5, 0] rfl)
                      · refine hq_iconst hx hb dX7_isAlike_130 (by decide) (by decide) (fun z105 ez105 => ?_)
                        refine lv_goto (tgt := 135) hx hb dX7_isAlike_131 (by decide) ?_
                        refine lv_istore_n (lv' := [(3, .int z105), (0, .ref h0), (1, .int a), (2, .int b), (4, .int v9), (5, .int v71)]) hx hb dX7_isAlike_135 rfl hl (by decide) rfl (fun ls hl => ?_)
                        refine hq_iinc (k := 5) (lv' := fun (z9 : Int32) => [(5, .int z9), (3, .int z105), (0, .ref h0), (1, .int a), (2, .int b), (4, .int v9)]) hx hb dX7_isAlike_136 hl rfl (by decide) (by decide) (by omega) (by omega) (by decide) (fun _ => rfl) (fun x106 ls ex106 hl => ?_)
                        have hl : lv_has ls 6 [(5, .int x106), (3, .int z105), (0, .ref h0), (1, .int a), (2, .int b), (4, .int v9)] := hl
                        refine lv_goto (tgt := 70) hx hb dX7_isAlike_139 (by decide) ?_
                        exact ihlp72 z105 x106 _ _ ls (by omega) (by omega) (by omega) (by omega) hJ (lv_sub hl [2, 3, 4, 1, 5, 0] rfl)
              exact lp72 ((61 - z69.toInt).toNat + 1) z68 z69 _ _ ls (by omega) (by omega) (by omega) (by omega) hJ (lv_sub hl [2, 3, 4, 1, 5, 0] rfl)
            · refine hq_iconst hx hb dX7_isAlike_61 (by decide) (by decide) (fun z107 ez107 => ?_)
              refine lv_goto (tgt := 66) hx hb dX7_isAlike_62 (by decide) ?_
              refine lv_istore_n (lv' := [(3, .int z107), (0, .ref h0), (1, .int a), (2, .int b), (4, .int v9)]) hx hb dX7_isAlike_66 rfl hl (by decide) rfl (fun ls hl => ?_)
              refine hq_iconst hx hb dX7_isAlike_67 (by decide) (by decide) (fun z108 ez108 => ?_)
              refine lv_istore (lv' := [(5, .int z108), (3, .int z107), (0, .ref h0), (1, .int a), (2, .int b), (4, .int v9)]) hx hb dX7_isAlike_68 hl (by decide) rfl (fun ls hl => ?_)
              have lp111 : ∀ (nlp111 : Nat) (v109 : Int32) (v110 : Int32) (H : Heap) (locs : List Loc) (ls : Array Slot), (v109.toInt = 0 ∨ v109.toInt = 1) → (0 ≤ v110.toInt) → (v110.toInt ≤ 60) → (61 - v110.toInt < (nlp111 : Int)) → hp_J dC dI dA κ B g s.heap H locs → lv_has ls 6 [(0, .ref h0), (1, .int a), (2, .int b), (3, .int v109), (4, .int v9), (5, .int v110)] → W p l e (headSpec wsX7_isAlike ({ frames := 0, cells := 0, slots := 0, locals := 0 } : Room)).room s m ([Value.ref h0, Value.int a, Value.int b] : List Value).toArray below meth c H locs 0 0 (MQ below (hp_Qi dC dI dA κ B (fun r u => g = u ∧ (r.toInt = 0 ∨ r.toInt = 1))) ([Value.ref h0, Value.int a, Value.int b] : List Value).toArray s 0 0 (hp_A B)) (F0 m 70 ls []) := by
                intro nlp111
                induction nlp111 with
                | zero => intro v109 v110 H locs ls iv113 iv114 iv115 hm112 hJ hl; exact absurd hm112 (by omega)
                | succ nlp111 ihlp111 =>
                  intro v109 v110 H locs ls iv113 iv114 iv115 hm112 hJ hl
                  refine lv_iload_n hx hb dX7_isAlike_70 rfl (lv_at hl 3 rfl) ?_
                  refine hq_if_eq (tgt := 142) hx hb dX7_isAlike_71 (by decide) (fun c116 => ?_) (fun c116 => ?_)
                  · refine hq_iinc (k := 4) (lv' := fun (z9 : Int32) => [(4, .int z9), (0, .ref h0), (1, .int a), (2, .int b), (3, .int v109), (5, .int v110)]) hx hb dX7_isAlike_142 hl rfl (by decide) (by decide) (by omega) (by omega) (by decide) (fun _ => rfl) (fun x117 ls ex117 hl => ?_)
                    have hl : lv_has ls 6 [(4, .int x117), (0, .ref h0), (1, .int a), (2, .int b), (3, .int v109), (5, .int v110)] := hl
                    refine lv_goto (tgt := 24) hx hb dX7_isAlike_145 (by decide) ?_
                    exact ihlp10 v109 x117 _ _ ls (by omega) (by omega) (by omega) (by omega) hJ (lv_sub hl [1, 2, 3, 4, 0] rfl)
                  · refine lv_iload hx hb dX7_isAlike_74 (lv_at hl 5 rfl) ?_
                    refine lv_aload_n hx hb dX7_isAlike_76 rfl (lv_at hl 0 rfl) ?_
                    refine hp_getr (C := RX7) (T := TX7) (N := 24) (ci := 7) (kd := 11) hx hb hts iX7_isAlike_X7 hown hK hJ k0 rfl rfl 18 (by decide) (hts (.fieldLink RX7 61 "NeighborBookModel" "sizes" "[I") (List.mem_of_getElem? (i := 2) rfl)) (fun _ h9 => h9) rfl dX7_isAlike_77 (fun b118 kb118 => ?_)
                    refine hq_bipush hx hb dX7_isAlike_80 (by decide) (fun z119 ez119 => ?_)
                    refine lv_iload_n hx hb dX7_isAlike_82 rfl (lv_at hl 1 rfl) ?_
                    refine hq_imul (w := 9 * a.toInt) hx hb dX7_isAlike_83 (by rw [ez119]) (by omega) (by omega) (fun x120 ex120 => ?_)
                    refine lv_iload hx hb dX7_isAlike_84 (lv_at hl 4 rfl) ?_
                    refine hq_iadd hx hb dX7_isAlike_86 (by omega) (by omega) (fun x121 ex121 => ?_)
                    refine hp_iald (kd := 29) (n := 117) hx hb hK hJ kb118 rfl (by omega) (by omega) (sp := (3, 60)) rfl rfl dX7_isAlike_87 (fun x122 ex122 => ?_)
                    have ex122 : -1 ≤ x122.toInt ∧ x122.toInt ≤ 60 := ex122
                    refine hq_icmp_ge (tgt := 142) hx hb dX7_isAlike_88 (by decide) (fun c123 => ?_) (fun c123 => ?_)
                    · refine hq_iinc (k := 4) (lv' := fun (z9 : Int32) => [(4, .int z9), (0, .ref h0), (1, .int a), (2, .int b), (3, .int v109), (5, .int v110)]) hx hb dX7_isAlike_142 hl rfl (by decide) (by decide) (by omega) (by omega) (by decide) (fun _ => rfl) (fun x124 ls ex124 hl => ?_)
                      have hl : lv_has ls 6 [(4, .int x124), (0, .ref h0), (1, .int a), (2, .int b), (3, .int v109), (5, .int v110)] := hl
                      refine lv_goto (tgt := 24) hx hb dX7_isAlike_145 (by decide) ?_
                      exact ihlp10 v109 x124 _ _ ls (by omega) (by omega) (by omega) (by omega) hJ (lv_sub hl [1, 2, 3, 4, 0] rfl)
                    · refine lv_aload_n hx hb dX7_isAlike_91 rfl (lv_at hl 0 rfl) ?_
                      refine hp_getr (C := RX7) (T := TX7) (N := 24) (ci := 7) (kd := 11) hx hb hts iX7_isAlike_X7 hown hK hJ k0 rfl rfl 17 (by decide) (hts (.fieldLink RX7 58 "NeighborBookModel" "bytes" "[B") (List.mem_of_getElem? (i := 3) rfl)) (fun _ h9 => h9) rfl dX7_isAlike_92 (fun b125 kb125 => ?_)
                      refine hq_bipush hx hb dX7_isAlike_95 (by decide) (fun z126 ez126 => ?_)
                      refine lv_iload_n hx hb dX7_isAlike_97 rfl (lv_at hl 1 rfl) ?_
                      refine hq_imul (w := 9 * a.toInt) hx hb dX7_isAlike_98 (by rw [ez126]) (by omega) (by omega) (fun x127 ex127 => ?_)
                      refine lv_iload hx hb dX7_isAlike_99 (lv_at hl 4 rfl) ?_
                      refine hq_iadd hx hb dX7_isAlike_101 (by omega) (by omega) (fun x128 ex128 => ?_)
                      refine hq_bipush hx hb dX7_isAlike_102 (by decide) (fun z129 ez129 => ?_)
                      refine hq_imul (w := x128.toInt * 60) hx hb dX7_isAlike_104 (by rw [ez129]) (by omega) (by omega) (fun x130 ex130 => ?_)
                      refine lv_iload hx hb dX7_isAlike_105 (lv_at hl 5 rfl) ?_
                      refine hq_iadd hx hb dX7_isAlike_107 (by omega) (by omega) (fun x131 ex131 => ?_)
                      refine hp_bald (kd := 28) (n := 7020) hx hb hK hJ kb125 rfl (by omega) (by omega) (sp := (5, 0)) rfl rfl dX7_isAlike_108 (fun x132 ex132 => ?_)
                      have ex132 : -128 ≤ x132.toInt ∧ x132.toInt ≤ 127 := ex132
                      refine lv_aload_n hx hb dX7_isAlike_109 rfl (lv_at hl 0 rfl) ?_
                      refine hp_getr (C := RX7) (T := TX7) (N := 24) (ci := 7) (kd := 11) hx hb hts iX7_isAlike_X7 hown hK hJ k0 rfl rfl 17 (by decide) (hts (.fieldLink RX7 58 "NeighborBookModel" "bytes" "[B") (List.mem_of_getElem? (i := 3) rfl)) (fun _ h9 => h9) rfl dX7_isAlike_110 (fun b133 kb133 => ?_)
                      refine hq_bipush hx hb dX7_isAlike_113 (by decide) (fun z134 ez134 => ?_)
                      refine lv_iload_n hx hb dX7_isAlike_115 rfl (lv_at hl 2 rfl) ?_
                      refine hq_imul (w := 9 * b.toInt) hx hb dX7_isAlike_116 (by rw [ez134]) (by omega) (by omega) (fun x135 ex135 => ?_)
                      refine lv_iload hx hb dX7_isAlike_117 (lv_at hl 4 rfl) ?_
                      refine hq_iadd hx hb dX7_isAlike_119 (by omega) (by omega) (fun x136 ex136 => ?_)
                      refine hq_bipush hx hb dX7_isAlike_120 (by decide) (fun z137 ez137 => ?_)
                      refine hq_imul (w := x136.toInt * 60) hx hb dX7_isAlike_122 (by rw [ez137]) (by omega) (by omega) (fun x138 ex138 => ?_)
                      refine lv_iload hx hb dX7_isAlike_123 (lv_at hl 5 rfl) ?_
                      refine hq_iadd hx hb dX7_isAlike_125 (by omega) (by omega) (fun x139 ex139 => ?_)
                      refine hp_bald (kd := 28) (n := 7020) hx hb hK hJ kb133 rfl (by omega) (by omega) (sp := (5, 0)) rfl rfl dX7_isAlike_126 (fun x140 ex140 => ?_)
                      have ex140 : -128 ≤ x140.toInt ∧ x140.toInt ≤ 127 := ex140
                      refine hq_icmp_ne (tgt := 134) hx hb dX7_isAlike_127 (by decide) (fun c141 => ?_) (fun c141 => ?_)
                      · refine hq_iconst hx hb dX7_isAlike_134 (by decide) (by decide) (fun z142 ez142 => ?_)
                        refine lv_istore_n (lv' := [(3, .int z142), (0, .ref h0), (1, .int a), (2, .int b), (4, .int v9), (5, .int v110)]) hx hb dX7_isAlike_135 rfl hl (by decide) rfl (fun ls hl => ?_)
                        refine hq_iinc (k := 5) (lv' := fun (z9 : Int32) => [(5, .int z9), (3, .int z142), (0, .ref h0), (1, .int a), (2, .int b), (4, .int v9)]) hx hb dX7_isAlike_136 hl rfl (by decide) (by decide) (by omega) (by omega) (by decide) (fun _ => rfl) (fun x143 ls ex143 hl => ?_)
                        have hl : lv_has ls 6 [(5, .int x143), (3, .int z142), (0, .ref h0), (1, .int a), (2, .int b), (4, .int v9)] := hl
                        refine lv_goto (tgt := 70) hx hb dX7_isAlike_139 (by decide) ?_
                        exact ihlp111 z142 x143 _ _ ls (by omega) (by omega) (by omega) (by omega) hJ (lv_sub hl [2, 3, 4, 1, 5, 0] rfl)
                      · refine hq_iconst hx hb dX7_isAlike_130 (by decide) (by decide) (fun z144 ez144 => ?_)
                        refine lv_goto (tgt := 135) hx hb dX7_isAlike_131 (by decide) ?_
                        refine lv_istore_n (lv' := [(3, .int z144), (0, .ref h0), (1, .int a), (2, .int b), (4, .int v9), (5, .int v110)]) hx hb dX7_isAlike_135 rfl hl (by decide) rfl (fun ls hl => ?_)
                        refine hq_iinc (k := 5) (lv' := fun (z9 : Int32) => [(5, .int z9), (3, .int z144), (0, .ref h0), (1, .int a), (2, .int b), (4, .int v9)]) hx hb dX7_isAlike_136 hl rfl (by decide) (by decide) (by omega) (by omega) (by decide) (fun _ => rfl) (fun x145 ls ex145 hl => ?_)
                        have hl : lv_has ls 6 [(5, .int x145), (3, .int z144), (0, .ref h0), (1, .int a), (2, .int b), (4, .int v9)] := hl
                        refine lv_goto (tgt := 70) hx hb dX7_isAlike_139 (by decide) ?_
                        exact ihlp111 z144 x145 _ _ ls (by omega) (by omega) (by omega) (by omega) hJ (lv_sub hl [2, 3, 4, 1, 5, 0] rfl)
              exact lp111 ((61 - z108.toInt).toNat + 1) z107 z108 _ _ ls (by omega) (by omega) (by omega) (by omega) hJ (lv_sub hl [2, 3, 4, 1, 5, 0] rfl)
    exact lp10 ((4 - z7.toInt).toNat + 1) z6 z7 _ _ ls (by omega) (by omega) (by omega) (by omega) hJ (lv_sub hl [2, 3, 4, 1, 0] rfl)
  · refine hq_iconst hx hb dX7_isAlike_15 (by decide) (by decide) (fun z146 ez146 => ?_)
    refine lv_goto (tgt := 20) hx hb dX7_isAlike_16 (by decide) ?_
    refine lv_istore_n (lv' := [(3, .int z146), (0, .ref h0), (1, .int a), (2, .int b)]) hx hb dX7_isAlike_20 rfl hl (by decide) rfl (fun ls hl => ?_)
    refine hq_iconst hx hb dX7_isAlike_21 (by decide) (by decide) (fun z147 ez147 => ?_)
    refine lv_istore (lv' := [(4, .int z147), (3, .int z146), (0, .ref h0), (1, .int a), (2, .int b)]) hx hb dX7_isAlike_22 hl (by decide) rfl (fun ls hl => ?_)
    have lp150 : ∀ (nlp150 : Nat) (v148 : Int32) (v149 : Int32) (H : Heap) (locs : List Loc) (ls : Array Slot), (v148.toInt = 0 ∨ v148.toInt = 1) → (1 ≤ v149.toInt) → (v149.toInt ≤ 3) → (4 - v149.toInt < (nlp150 : Int)) → hp_J dC dI dA κ B g s.heap H locs → lv_has ls 6 [(0, .ref h0), (1, .int a), (2, .int b), (3, .int v148), (4, .int v149)] → W p l e (headSpec wsX7_isAlike ({ frames := 0, cells := 0, slots := 0, locals := 0 } : Room)).room s m ([Value.ref h0, Value.int a, Value.int b] : List Value).toArray below meth c H locs 0 0 (MQ below (hp_Qi dC dI dA κ B (fun r u => g = u ∧ (r.toInt = 0 ∨ r.toInt = 1))) ([Value.ref h0, Value.int a, Value.int b] : List Value).toArray s 0 0 (hp_A B)) (F0 m 24 ls []) := by
      intro nlp150
      induction nlp150 with
      | zero => intro v148 v149 H locs ls iv152 iv153 iv154 hm151 hJ hl; exact absurd hm151 (by omega)
      | succ nlp150 ihlp150 =>
        intro v148 v149 H locs ls iv152 iv153 iv154 hm151 hJ hl
        refine lv_iload hx hb dX7_isAlike_24 (lv_at hl 4 rfl) ?_
        refine hq_iconst hx hb dX7_isAlike_26 (by decide) (by decide) (fun z155 ez155 => ?_)
        refine hq_icmp_ge (tgt := 148) hx hb dX7_isAlike_27 (by decide) (fun c156 => ?_) (fun c156 => ?_)
        · refine lv_iload_n hx hb dX7_isAlike_148 rfl (lv_at hl 3 rfl) ?_
          exact hp_zret hx hb hK hN hW hlocks hJ hr (by omega) ⟨rfl, by omega⟩ dX7_isAlike_149
        · refine lv_iload_n hx hb dX7_isAlike_30 rfl (lv_at hl 3 rfl) ?_
          refine hq_if_eq (tgt := 65) hx hb dX7_isAlike_31 (by decide) (fun c157 => ?_) (fun c157 => ?_)
          · refine hq_iconst hx hb dX7_isAlike_65 (by decide) (by decide) (fun z158 ez158 => ?_)
            refine lv_istore_n (lv' := [(3, .int z158), (0, .ref h0), (1, .int a), (2, .int b), (4, .int v149)]) hx hb dX7_isAlike_66 rfl hl (by decide) rfl (fun ls hl => ?_)
            refine hq_iconst hx hb dX7_isAlike_67 (by decide) (by decide) (fun z159 ez159 => ?_)
            refine lv_istore (lv' := [(5, .int z159), (3, .int z158), (0, .ref h0), (1, .int a), (2, .int b), (4, .int v149)]) hx hb dX7_isAlike_68 hl (by decide) rfl (fun ls hl => ?_)
            have lp162 : ∀ (nlp162 : Nat) (v160 : Int32) (v161 : Int32) (H : Heap) (locs : List Loc) (ls : Array Slot), (v160.toInt = 0 ∨ v160.toInt = 1) → (0 ≤ v161.toInt) → (v161.toInt ≤ 60) → (61 - v161.toInt < (nlp162 : Int)) → hp_J dC dI dA κ B g s.heap H locs → lv_has ls 6 [(0, .ref h0), (1, .int a), (2, .int b), (3, .int v160), (4, .int v149), (5, .int v161)] → W p l e (headSpec wsX7_isAlike ({ frames := 0, cells := 0, slots := 0, locals := 0 } : Room)).room s m ([Value.ref h0, Value.int a, Value.int b] : List Value).toArray below meth c H locs 0 0 (MQ below (hp_Qi dC dI dA κ B (fun r u => g = u ∧ (r.toInt = 0 ∨ r.toInt = 1))) ([Value.ref h0, Value.int a, Value.int b] : List Value).toArray s 0 0 (hp_A B)) (F0 m 70 ls []) := by
              intro nlp162
              induction nlp162 with
              | zero => intro v160 v161 H locs ls iv164 iv165 iv166 hm163 hJ hl; exact absurd hm163 (by omega)
              | succ nlp162 ihlp162 =>
                intro v160 v161 H locs ls iv164 iv165 iv166 hm163 hJ hl
                refine lv_iload_n hx hb dX7_isAlike_70 rfl (lv_at hl 3 rfl) ?_
                refine hq_if_eq (tgt := 142) hx hb dX7_isAlike_71 (by decide) (fun c167 => ?_) (fun c167 => ?_)
                · refine hq_iinc (k := 4) (lv' := fun (z9 : Int32) => [(4, .int z9), (0, .ref h0), (1, .int a), (2, .int b), (3, .int v160), (5, .int v161)]) hx hb dX7_isAlike_142 hl rfl (by decide) (by decide) (by omega) (by omega) (by decide) (fun _ => rfl) (fun x168 ls ex168 hl => ?_)
                  have hl : lv_has ls 6 [(4, .int x168), (0, .ref h0), (1, .int a), (2, .int b), (3, .int v160), (5, .int v161)] := hl
                  refine lv_goto (tgt := 24) hx hb dX7_isAlike_145 (by decide) ?_
                  exact ihlp150 v160 x168 _ _ ls (by omega) (by omega) (by omega) (by omega) hJ (lv_sub hl [1, 2, 3, 4, 0] rfl)
                · refine lv_iload hx hb dX7_isAlike_74 (lv_at hl 5 rfl) ?_
                  refine lv_aload_n hx hb dX7_isAlike_76 rfl (lv_at hl 0 rfl) ?_
                  refine hp_getr (C := RX7) (T := TX7) (N := 24) (ci := 7) (kd := 11) hx hb hts iX7_isAlike_X7 hown hK hJ k0 rfl rfl 18 (by decide) (hts (.fieldLink RX7 61 "NeighborBookModel" "sizes" "[I") (List.mem_of_getElem? (i := 2) rfl)) (fun _ h9 => h9) rfl dX7_isAlike_77 (fun b169 kb169 => ?_)
                  refine hq_bipush hx hb dX7_isAlike_80 (by decide) (fun z170 ez170 => ?_)
                  refine lv_iload_n hx hb dX7_isAlike_82 rfl (lv_at hl 1 rfl) ?_
                  refine hq_imul (w := 9 * a.toInt) hx hb dX7_isAlike_83 (by rw [ez170]) (by omega) (by omega) (fun x171 ex171 => ?_)
                  refine lv_iload hx hb dX7_isAlike_84 (lv_at hl 4 rfl) ?_
                  refine hq_iadd hx hb dX7_isAlike_86 (by omega) (by omega) (fun x172 ex172 => ?_)
                  refine hp_iald (kd := 29) (n := 117) hx hb hK hJ kb169 rfl (by omega) (by omega) (sp := (3, 60)) rfl rfl dX7_isAlike_87 (fun x173 ex173 => ?_)
                  have ex173 : -1 ≤ x173.toInt ∧ x173.toInt ≤ 60 := ex173
                  refine hq_icmp_ge (tgt := 142) hx hb dX7_isAlike_88 (by decide) (fun c174 => ?_) (fun c174 => ?_)
                  · refine hq_iinc (k := 4) (lv' := fun (z9 : Int32) => [(4, .int z9), (0, .ref h0), (1, .int a), (2, .int b), (3, .int v160), (5, .int v161)]) hx hb dX7_isAlike_142 hl rfl (by decide) (by decide) (by omega) (by omega) (by decide) (fun _ => rfl) (fun x175 ls ex175 hl => ?_)
                    have hl : lv_has ls 6 [(4, .int x175), (0, .ref h0), (1, .int a), (2, .int b), (3, .int v160), (5, .int v161)] := hl
                    refine lv_goto (tgt := 24) hx hb dX7_isAlike_145 (by decide) ?_
                    exact ihlp150 v160 x175 _ _ ls (by omega) (by omega) (by omega) (by omega) hJ (lv_sub hl [1, 2, 3, 4, 0] rfl)
                  · refine lv_aload_n hx hb dX7_isAlike_91 rfl (lv_at hl 0 rfl) ?_
                    refine hp_getr (C := RX7) (T := TX7) (N := 24) (ci := 7) (kd := 11) hx hb hts iX7_isAlike_X7 hown hK hJ k0 rfl rfl 17 (by decide) (hts (.fieldLink RX7 58 "NeighborBookModel" "bytes" "[B") (List.mem_of_getElem? (i := 3) rfl)) (fun _ h9 => h9) rfl dX7_isAlike_92 (fun b176 kb176 => ?_)
                    refine hq_bipush hx hb dX7_isAlike_95 (by decide) (fun z177 ez177 => ?_)
                    refine lv_iload_n hx hb dX7_isAlike_97 rfl (lv_at hl 1 rfl) ?_
                    refine hq_imul (w := 9 * a.toInt) hx hb dX7_isAlike_98 (by rw [ez177]) (by omega) (by omega) (fun x178 ex178 => ?_)
                    refine lv_iload hx hb dX7_isAlike_99 (lv_at hl 4 rfl) ?_
                    refine hq_iadd hx hb dX7_isAlike_101 (by omega) (by omega) (fun x179 ex179 => ?_)
                    refine hq_bipush hx hb dX7_isAlike_102 (by decide) (fun z180 ez180 => ?_)
                    refine hq_imul (w := x179.toInt * 60) hx hb dX7_isAlike_104 (by rw [ez180]) (by omega) (by omega) (fun x181 ex181 => ?_)
                    refine lv_iload hx hb dX7_isAlike_105 (lv_at hl 5 rfl) ?_
                    refine hq_iadd hx hb dX7_isAlike_107 (by omega) (by omega) (fun x182 ex182 => ?_)
                    refine hp_bald (kd := 28) (n := 7020) hx hb hK hJ kb176 rfl (by omega) (by omega) (sp := (5, 0)) rfl rfl dX7_isAlike_108 (fun x183 ex183 => ?_)
                    have ex183 : -128 ≤ x183.toInt ∧ x183.toInt ≤ 127 := ex183
                    refine lv_aload_n hx hb dX7_isAlike_109 rfl (lv_at hl 0 rfl) ?_
                    refine hp_getr (C := RX7) (T := TX7) (N := 24) (ci := 7) (kd := 11) hx hb hts iX7_isAlike_X7 hown hK hJ k0 rfl rfl 17 (by decide) (hts (.fieldLink RX7 58 "NeighborBookModel" "bytes" "[B") (List.mem_of_getElem? (i := 3) rfl)) (fun _ h9 => h9) rfl dX7_isAlike_110 (fun b184 kb184 => ?_)
                    refine hq_bipush hx hb dX7_isAlike_113 (by decide) (fun z185 ez185 => ?_)
                    refine lv_iload_n hx hb dX7_isAlike_115 rfl (lv_at hl 2 rfl) ?_
                    refine hq_imul (w := 9 * b.toInt) hx hb dX7_isAlike_116 (by rw [ez185]) (by omega) (by omega) (fun x186 ex186 => ?_)
                    refine lv_iload hx hb dX7_isAlike_117 (lv_at hl 4 rfl) ?_
                    refine hq_iadd hx hb dX7_isAlike_119 (by omega) (by omega) (fun x187 ex187 => ?_)
                    refine hq_bipush hx hb dX7_isAlike_120 (by decide) (fun z188 ez188 => ?_)
                    refine hq_imul (w := x187.toInt * 60) hx hb dX7_isAlike_122 (by rw [ez188]) (by omega) (by omega) (fun x189 ex189 => ?_)
                    refine lv_iload hx hb dX7_isAlike_123 (lv_at hl 5 rfl) ?_
                    refine hq_iadd hx hb dX7_isAlike_125 (by omega) (by omega) (fun x190 ex190 => ?_)
                    refine hp_bald (kd := 28) (n := 7020) hx hb hK hJ kb184 rfl (by omega) (by omega) (sp := (5, 0)) rfl rfl dX7_isAlike_126 (fun x191 ex191 => ?_)
                    have ex191 : -128 ≤ x191.toInt ∧ x191.toInt ≤ 127 := ex191
                    refine hq_icmp_ne (tgt := 134) hx hb dX7_isAlike_127 (by decide) (fun c192 => ?_) (fun c192 => ?_)
                    · refine hq_iconst hx hb dX7_isAlike_134 (by decide) (by decide) (fun z193 ez193 => ?_)
                      refine lv_istore_n (lv' := [(3, .int z193), (0, .ref h0), (1, .int a), (2, .int b), (4, .int v149), (5, .int v161)]) hx hb dX7_isAlike_135 rfl hl (by decide) rfl (fun ls hl => ?_)
                      refine hq_iinc (k := 5) (lv' := fun (z9 : Int32) => [(5, .int z9), (3, .int z193), (0, .ref h0), (1, .int a), (2, .int b), (4, .int v149)]) hx hb dX7_isAlike_136 hl rfl (by decide) (by decide) (by omega) (by omega) (by decide) (fun _ => rfl) (fun x194 ls ex194 hl => ?_)
                      have hl : lv_has ls 6 [(5, .int x194), (3, .int z193), (0, .ref h0), (1, .int a), (2, .int b), (4, .int v149)] := hl
                      refine lv_goto (tgt := 70) hx hb dX7_isAlike_139 (by decide) ?_
                      exact ihlp162 z193 x194 _ _ ls (by omega) (by omega) (by omega) (by omega) hJ (lv_sub hl [2, 3, 4, 1, 5, 0] rfl)
                    · refine hq_iconst hx hb dX7_isAlike_130 (by decide) (by decide) (fun z195 ez195 => ?_)
                      refine lv_goto (tgt := 135) hx hb dX7_isAlike_131 (by decide) ?_
                      refine lv_istore_n (lv' := [(3, .int z195), (0, .ref h0), (1, .int a), (2, .int b), (4, .int v149), (5, .int v161)]) hx hb dX7_isAlike_135 rfl hl (by decide) rfl (fun ls hl => ?_)
                      refine hq_iinc (k := 5) (lv' := fun (z9 : Int32) => [(5, .int z9), (3, .int z195), (0, .ref h0), (1, .int a), (2, .int b), (4, .int v149)]) hx hb dX7_isAlike_136 hl rfl (by decide) (by decide) (by omega) (by omega) (by decide) (fun _ => rfl) (fun x196 ls ex196 hl => ?_)
                      have hl : lv_has ls 6 [(5, .int x196), (3, .int z195), (0, .ref h0), (1, .int a), (2, .int b), (4, .int v149)] := hl
                      refine lv_goto (tgt := 70) hx hb dX7_isAlike_139 (by decide) ?_
                      exact ihlp162 z195 x196 _ _ ls (by omega) (by omega) (by omega) (by omega) hJ (lv_sub hl [2, 3, 4, 1, 5, 0] rfl)
            exact lp162 ((61 - z159.toInt).toNat + 1) z158 z159 _ _ ls (by omega) (by omega) (by omega) (by omega) hJ (lv_sub hl [2, 3, 4, 1, 5, 0] rfl)
          · refine lv_aload_n hx hb dX7_isAlike_34 rfl (lv_at hl 0 rfl) ?_
            refine hp_getr (C := RX7) (T := TX7) (N := 24) (ci := 7) (kd := 11) hx hb hts iX7_isAlike_X7 hown hK hJ k0 rfl rfl 18 (by decide) (hts (.fieldLink RX7 61 "NeighborBookModel" "sizes" "[I") (List.mem_of_getElem? (i := 2) rfl)) (fun _ h9 => h9) rfl dX7_isAlike_35 (fun b197 kb197 => ?_)
            refine hq_bipush hx hb dX7_isAlike_38 (by decide) (fun z198 ez198 => ?_)
            refine lv_iload_n hx hb dX7_isAlike_40 rfl (lv_at hl 1 rfl) ?_
            refine hq_imul (w := 9 * a.toInt) hx hb dX7_isAlike_41 (by rw [ez198]) (by omega) (by omega) (fun x199 ex199 => ?_)
            refine lv_iload hx hb dX7_isAlike_42 (lv_at hl 4 rfl) ?_
            refine hq_iadd hx hb dX7_isAlike_44 (by omega) (by omega) (fun x200 ex200 => ?_)
            refine hp_iald (kd := 29) (n := 117) hx hb hK hJ kb197 rfl (by omega) (by omega) (sp := (3, 60)) rfl rfl dX7_isAlike_45 (fun x201 ex201 => ?_)
            have ex201 : -1 ≤ x201.toInt ∧ x201.toInt ≤ 60 := ex201
            refine lv_aload_n hx hb dX7_isAlike_46 rfl (lv_at hl 0 rfl) ?_
            refine hp_getr (C := RX7) (T := TX7) (N := 24) (ci := 7) (kd := 11) hx hb hts iX7_isAlike_X7 hown hK hJ k0 rfl rfl 18 (by decide) (hts (.fieldLink RX7 61 "NeighborBookModel" "sizes" "[I") (List.mem_of_getElem? (i := 2) rfl)) (fun _ h9 => h9) rfl dX7_isAlike_47 (fun b202 kb202 => ?_)
            refine hq_bipush hx hb dX7_isAlike_50 (by decide) (fun z203 ez203 => ?_)
            refine lv_iload_n hx hb dX7_isAlike_52 rfl (lv_at hl 2 rfl) ?_
            refine hq_imul (w := 9 * b.toInt) hx hb dX7_isAlike_53 (by rw [ez203]) (by omega) (by omega) (fun x204 ex204 => ?_)
            refine lv_iload hx hb dX7_isAlike_54 (lv_at hl 4 rfl) ?_
            refine hq_iadd hx hb dX7_isAlike_56 (by omega) (by omega) (fun x205 ex205 => ?_)
            refine hp_iald (kd := 29) (n := 117) hx hb hK hJ kb202 rfl (by omega) (by omega) (sp := (3, 60)) rfl rfl dX7_isAlike_57 (fun x206 ex206 => ?_)
            have ex206 : -1 ≤ x206.toInt ∧ x206.toInt ≤ 60 := ex206
            refine hq_icmp_ne (tgt := 65) hx hb dX7_isAlike_58 (by decide) (fun c207 => ?_) (fun c207 => ?_)
            · refine hq_iconst hx hb dX7_isAlike_65 (by decide) (by decide) (fun z208 ez208 => ?_)
              refine lv_istore_n (lv' := [(3, .int z208), (0, .ref h0), (1, .int a), (2, .int b), (4, .int v149)]) hx hb dX7_isAlike_66 rfl hl (by decide) rfl (fun ls hl => ?_)
              refine hq_iconst hx hb dX7_isAlike_67 (by decide) (by decide) (fun z209 ez209 => ?_)
              refine lv_istore (lv' := [(5, .int z209), (3, .int z208), (0, .ref h0), (1, .int a), (2, .int b), (4, .int v149)]) hx hb dX7_isAlike_68 hl (by decide) rfl (fun ls hl => ?_)
              have lp212 : ∀ (nlp212 : Nat) (v210 : Int32) (v211 : Int32) (H : Heap) (locs : List Loc) (ls : Array Slot), (v210.toInt = 0 ∨ v210.toInt = 1) → (0 ≤ v211.toInt) → (v211.toInt ≤ 60) → (61 - v211.toInt < (nlp212 : Int)) → hp_J dC dI dA κ B g s.heap H locs → lv_has ls 6 [(0, .ref h0), (1, .int a), (2, .int b), (3, .int v210), (4, .int v149), (5, .int v211)] → W p l e (headSpec wsX7_isAlike ({ frames := 0, cells := 0, slots := 0, locals := 0 } : Room)).room s m ([Value.ref h0, Value.int a, Value.int b] : List Value).toArray below meth c H locs 0 0 (MQ below (hp_Qi dC dI dA κ B (fun r u => g = u ∧ (r.toInt = 0 ∨ r.toInt = 1))) ([Value.ref h0, Value.int a, Value.int b] : List Value).toArray s 0 0 (hp_A B)) (F0 m 70 ls []) := by
                intro nlp212
                induction nlp212 with
                | zero => intro v210 v211 H locs ls iv214 iv215 iv216 hm213 hJ hl; exact absurd hm213 (by omega)
                | succ nlp212 ihlp212 =>
                  intro v210 v211 H locs ls iv214 iv215 iv216 hm213 hJ hl
                  refine lv_iload_n hx hb dX7_isAlike_70 rfl (lv_at hl 3 rfl) ?_
                  refine hq_if_eq (tgt := 142) hx hb dX7_isAlike_71 (by decide) (fun c217 => ?_) (fun c217 => ?_)
                  · refine hq_iinc (k := 4) (lv' := fun (z9 : Int32) => [(4, .int z9), (0, .ref h0), (1, .int a), (2, .int b), (3, .int v210), (5, .int v211)]) hx hb dX7_isAlike_142 hl rfl (by decide) (by decide) (by omega) (by omega) (by decide) (fun _ => rfl) (fun x218 ls ex218 hl => ?_)
                    have hl : lv_has ls 6 [(4, .int x218), (0, .ref h0), (1, .int a), (2, .int b), (3, .int v210), (5, .int v211)] := hl
                    refine lv_goto (tgt := 24) hx hb dX7_isAlike_145 (by decide) ?_
                    exact ihlp150 v210 x218 _ _ ls (by omega) (by omega) (by omega) (by omega) hJ (lv_sub hl [1, 2, 3, 4, 0] rfl)
                  · refine lv_iload hx hb dX7_isAlike_74 (lv_at hl 5 rfl) ?_
                    refine lv_aload_n hx hb dX7_isAlike_76 rfl (lv_at hl 0 rfl) ?_
                    refine hp_getr (C := RX7) (T := TX7) (N := 24) (ci := 7) (kd := 11) hx hb hts iX7_isAlike_X7 hown hK hJ k0 rfl rfl 18 (by decide) (hts (.fieldLink RX7 61 "NeighborBookModel" "sizes" "[I") (List.mem_of_getElem? (i := 2) rfl)) (fun _ h9 => h9) rfl dX7_isAlike_77 (fun b219 kb219 => ?_)
                    refine hq_bipush hx hb dX7_isAlike_80 (by decide) (fun z220 ez220 => ?_)
                    refine lv_iload_n hx hb dX7_isAlike_82 rfl (lv_at hl 1 rfl) ?_
                    refine hq_imul (w := 9 * a.toInt) hx hb dX7_isAlike_83 (by rw [ez220]) (by omega) (by omega) (fun x221 ex221 => ?_)
                    refine lv_iload hx hb dX7_isAlike_84 (lv_at hl 4 rfl) ?_
                    refine hq_iadd hx hb dX7_isAlike_86 (by omega) (by omega) (fun x222 ex222 => ?_)
                    refine hp_iald (kd := 29) (n := 117) hx hb hK hJ kb219 rfl (by omega) (by omega) (sp := (3, 60)) rfl rfl dX7_isAlike_87 (fun x223 ex223 => ?_)
                    have ex223 : -1 ≤ x223.toInt ∧ x223.toInt ≤ 60 := ex223
                    refine hq_icmp_ge (tgt := 142) hx hb dX7_isAlike_88 (by decide) (fun c224 => ?_) (fun c224 => ?_)
                    · refine hq_iinc (k := 4) (lv' := fun (z9 : Int32) => [(4, .int z9), (0, .ref h0), (1, .int a), (2, .int b), (3, .int v210), (5, .int v211)]) hx hb dX7_isAlike_142 hl rfl (by decide) (by decide) (by omega) (by omega) (by decide) (fun _ => rfl) (fun x225 ls ex225 hl => ?_)
                      have hl : lv_has ls 6 [(4, .int x225), (0, .ref h0), (1, .int a), (2, .int b), (3, .int v210), (5, .int v211)] := hl
                      refine lv_goto (tgt := 24) hx hb dX7_isAlike_145 (by decide) ?_
                      exact ihlp150 v210 x225 _ _ ls (by omega) (by omega) (by omega) (by omega) hJ (lv_sub hl [1, 2, 3, 4, 0] rfl)
                    · refine lv_aload_n hx hb dX7_isAlike_91 rfl (lv_at hl 0 rfl) ?_
                      refine hp_getr (C := RX7) (T := TX7) (N := 24) (ci := 7) (kd := 11) hx hb hts iX7_isAlike_X7 hown hK hJ k0 rfl rfl 17 (by decide) (hts (.fieldLink RX7 58 "NeighborBookModel" "bytes" "[B") (List.mem_of_getElem? (i := 3) rfl)) (fun _ h9 => h9) rfl dX7_isAlike_92 (fun b226 kb226 => ?_)
                      refine hq_bipush hx hb dX7_isAlike_95 (by decide) (fun z227 ez227 => ?_)
                      refine lv_iload_n hx hb dX7_isAlike_97 rfl (lv_at hl 1 rfl) ?_
                      refine hq_imul (w := 9 * a.toInt) hx hb dX7_isAlike_98 (by rw [ez227]) (by omega) (by omega) (fun x228 ex228 => ?_)
                      refine lv_iload hx hb dX7_isAlike_99 (lv_at hl 4 rfl) ?_
                      refine hq_iadd hx hb dX7_isAlike_101 (by omega) (by omega) (fun x229 ex229 => ?_)
                      refine hq_bipush hx hb dX7_isAlike_102 (by decide) (fun z230 ez230 => ?_)
                      refine hq_imul (w := x229.toInt * 60) hx hb dX7_isAlike_104 (by rw [ez230]) (by omega) (by omega) (fun x231 ex231 => ?_)
                      refine lv_iload hx hb dX7_isAlike_105 (lv_at hl 5 rfl) ?_
                      refine hq_iadd hx hb dX7_isAlike_107 (by omega) (by omega) (fun x232 ex232 => ?_)
                      refine hp_bald (kd := 28) (n := 7020) hx hb hK hJ kb226 rfl (by omega) (by omega) (sp := (5, 0)) rfl rfl dX7_isAlike_108 (fun x233 ex233 => ?_)
                      have ex233 : -128 ≤ x233.toInt ∧ x233.toInt ≤ 127 := ex233
                      refine lv_aload_n hx hb dX7_isAlike_109 rfl (lv_at hl 0 rfl) ?_
                      refine hp_getr (C := RX7) (T := TX7) (N := 24) (ci := 7) (kd := 11) hx hb hts iX7_isAlike_X7 hown hK hJ k0 rfl rfl 17 (by decide) (hts (.fieldLink RX7 58 "NeighborBookModel" "bytes" "[B") (List.mem_of_getElem? (i := 3) rfl)) (fun _ h9 => h9) rfl dX7_isAlike_110 (fun b234 kb234 => ?_)
                      refine hq_bipush hx hb dX7_isAlike_113 (by decide) (fun z235 ez235 => ?_)
                      refine lv_iload_n hx hb dX7_isAlike_115 rfl (lv_at hl 2 rfl) ?_
                      refine hq_imul (w := 9 * b.toInt) hx hb dX7_isAlike_116 (by rw [ez235]) (by omega) (by omega) (fun x236 ex236 => ?_)
                      refine lv_iload hx hb dX7_isAlike_117 (lv_at hl 4 rfl) ?_
                      refine hq_iadd hx hb dX7_isAlike_119 (by omega) (by omega) (fun x237 ex237 => ?_)
                      refine hq_bipush hx hb dX7_isAlike_120 (by decide) (fun z238 ez238 => ?_)
                      refine hq_imul (w := x237.toInt * 60) hx hb dX7_isAlike_122 (by rw [ez238]) (by omega) (by omega) (fun x239 ex239 => ?_)
                      refine lv_iload hx hb dX7_isAlike_123 (lv_at hl 5 rfl) ?_
                      refine hq_iadd hx hb dX7_isAlike_125 (by omega) (by omega) (fun x240 ex240 => ?_)
                      refine hp_bald (kd := 28) (n := 7020) hx hb hK hJ kb234 rfl (by omega) (by omega) (sp := (5, 0)) rfl rfl dX7_isAlike_126 (fun x241 ex241 => ?_)
                      have ex241 : -128 ≤ x241.toInt ∧ x241.toInt ≤ 127 := ex241
                      refine hq_icmp_ne (tgt := 134) hx hb dX7_isAlike_127 (by decide) (fun c242 => ?_) (fun c242 => ?_)
                      · refine hq_iconst hx hb dX7_isAlike_134 (by decide) (by decide) (fun z243 ez243 => ?_)
                        refine lv_istore_n (lv' := [(3, .int z243), (0, .ref h0), (1, .int a), (2, .int b), (4, .int v149), (5, .int v211)]) hx hb dX7_isAlike_135 rfl hl (by decide) rfl (fun ls hl => ?_)
                        refine hq_iinc (k := 5) (lv' := fun (z9 : Int32) => [(5, .int z9), (3, .int z243), (0, .ref h0), (1, .int a), (2, .int b), (4, .int v149)]) hx hb dX7_isAlike_136 hl rfl (by decide) (by decide) (by omega) (by omega) (by decide) (fun _ => rfl) (fun x244 ls ex244 hl => ?_)
                        have hl : lv_has ls 6 [(5, .int x244), (3, .int z243), (0, .ref h0), (1, .int a), (2, .int b), (4, .int v149)] := hl
                        refine lv_goto (tgt := 70) hx hb dX7_isAlike_139 (by decide) ?_
                        exact ihlp212 z243 x244 _ _ ls (by omega) (by omega) (by omega) (by omega) hJ (lv_sub hl [2, 3, 4, 1, 5, 0] rfl)
                      · refine hq_iconst hx hb dX7_isAlike_130 (by decide) (by decide) (fun z245 ez245 => ?_)
                        refine lv_goto (tgt := 135) hx hb dX7_isAlike_131 (by decide) ?_
                        refine lv_istore_n (lv' := [(3, .int z245), (0, .ref h0), (1, .int a), (2, .int b), (4, .int v149), (5, .int v211)]) hx hb dX7_isAlike_135 rfl hl (by decide) rfl (fun ls hl => ?_)
                        refine hq_iinc (k := 5) (lv' := fun (z9 : Int32) => [(5, .int z9), (3, .int z245), (0, .ref h0), (1, .int a), (2, .int b), (4, .int v149)]) hx hb dX7_isAlike_136 hl rfl (by decide) (by decide) (by omega) (by omega) (by decide) (fun _ => rfl) (fun x246 ls ex246 hl => ?_)
                        have hl : lv_has ls 6 [(5, .int x246), (3, .int z245), (0, .ref h0), (1, .int a), (2, .int b), (4, .int v149)] := hl
                        refine lv_goto (tgt := 70) hx hb dX7_isAlike_139 (by decide) ?_
                        exact ihlp212 z245 x246 _ _ ls (by omega) (by omega) (by omega) (by omega) hJ (lv_sub hl [2, 3, 4, 1, 5, 0] rfl)
              exact lp212 ((61 - z209.toInt).toNat + 1) z208 z209 _ _ ls (by omega) (by omega) (by omega) (by omega) hJ (lv_sub hl [2, 3, 4, 1, 5, 0] rfl)
            · refine hq_iconst hx hb dX7_isAlike_61 (by decide) (by decide) (fun z247 ez247 => ?_)
              refine lv_goto (tgt := 66) hx hb dX7_isAlike_62 (by decide) ?_
              refine lv_istore_n (lv' := [(3, .int z247), (0, .ref h0), (1, .int a), (2, .int b), (4, .int v149)]) hx hb dX7_isAlike_66 rfl hl (by decide) rfl (fun ls hl => ?_)
              refine hq_iconst hx hb dX7_isAlike_67 (by decide) (by decide) (fun z248 ez248 => ?_)
              refine lv_istore (lv' := [(5, .int z248), (3, .int z247), (0, .ref h0), (1, .int a), (2, .int b), (4, .int v149)]) hx hb dX7_isAlike_68 hl (by decide) rfl (fun ls hl => ?_)
              have lp251 : ∀ (nlp251 : Nat) (v249 : Int32) (v250 : Int32) (H : Heap) (locs : List Loc) (ls : Array Slot), (v249.toInt = 0 ∨ v249.toInt = 1) → (0 ≤ v250.toInt) → (v250.toInt ≤ 60) → (61 - v250.toInt < (nlp251 : Int)) → hp_J dC dI dA κ B g s.heap H locs → lv_has ls 6 [(0, .ref h0), (1, .int a), (2, .int b), (3, .int v249), (4, .int v149), (5, .int v250)] → W p l e (headSpec wsX7_isAlike ({ frames := 0, cells := 0, slots := 0, locals := 0 } : Room)).room s m ([Value.ref h0, Value.int a, Value.int b] : List Value).toArray below meth c H locs 0 0 (MQ below (hp_Qi dC dI dA κ B (fun r u => g = u ∧ (r.toInt = 0 ∨ r.toInt = 1))) ([Value.ref h0, Value.int a, Value.int b] : List Value).toArray s 0 0 (hp_A B)) (F0 m 70 ls []) := by
                intro nlp251
                induction nlp251 with
                | zero => intro v249 v250 H locs ls iv253 iv254 iv255 hm252 hJ hl; exact absurd hm252 (by omega)
                | succ nlp251 ihlp251 =>
                  intro v249 v250 H locs ls iv253 iv254 iv255 hm252 hJ hl
                  refine lv_iload_n hx hb dX7_isAlike_70 rfl (lv_at hl 3 rfl) ?_
                  refine hq_if_eq (tgt := 142) hx hb dX7_isAlike_71 (by decide) (fun c256 => ?_) (fun c256 => ?_)
                  · refine hq_iinc (k := 4) (lv' := fun (z9 : Int32) => [(4, .int z9), (0, .ref h0), (1, .int a), (2, .int b), (3, .int v249), (5, .int v250)]) hx hb dX7_isAlike_142 hl rfl (by decide) (by decide) (by omega) (by omega) (by decide) (fun _ => rfl) (fun x257 ls ex257 hl => ?_)
                    have hl : lv_has ls 6 [(4, .int x257), (0, .ref h0), (1, .int a), (2, .int b), (3, .int v249), (5, .int v250)] := hl
                    refine lv_goto (tgt := 24) hx hb dX7_isAlike_145 (by decide) ?_
                    exact ihlp150 v249 x257 _ _ ls (by omega) (by omega) (by omega) (by omega) hJ (lv_sub hl [1, 2, 3, 4, 0] rfl)
                  · refine lv_iload hx hb dX7_isAlike_74 (lv_at hl 5 rfl) ?_
                    refine lv_aload_n hx hb dX7_isAlike_76 rfl (lv_at hl 0 rfl) ?_
                    refine hp_getr (C := RX7) (T := TX7) (N := 24) (ci := 7) (kd := 11) hx hb hts iX7_isAlike_X7 hown hK hJ k0 rfl rfl 18 (by decide) (hts (.fieldLink RX7 61 "NeighborBookModel" "sizes" "[I") (List.mem_of_getElem? (i := 2) rfl)) (fun _ h9 => h9) rfl dX7_isAlike_77 (fun b258 kb258 => ?_)
                    refine hq_bipush hx hb dX7_isAlike_80 (by decide) (fun z259 ez259 => ?_)
                    refine lv_iload_n hx hb dX7_isAlike_82 rfl (lv_at hl 1 rfl) ?_
                    refine hq_imul (w := 9 * a.toInt) hx hb dX7_isAlike_83 (by rw [ez259]) (by omega) (by omega) (fun x260 ex260 => ?_)
                    refine lv_iload hx hb dX7_isAlike_84 (lv_at hl 4 rfl) ?_
                    refine hq_iadd hx hb dX7_isAlike_86 (by omega) (by omega) (fun x261 ex261 => ?_)
                    refine hp_iald (kd := 29) (n := 117) hx hb hK hJ kb258 rfl (by omega) (by omega) (sp := (3, 60)) rfl rfl dX7_isAlike_87 (fun x262 ex262 => ?_)
                    have ex262 : -1 ≤ x262.toInt ∧ x262.toInt ≤ 60 := ex262
                    refine hq_icmp_ge (tgt := 142) hx hb dX7_isAlike_88 (by decide) (fun c263 => ?_) (fun c263 => ?_)
                    · refine hq_iinc (k := 4) (lv' := fun (z9 : Int32) => [(4, .int z9), (0, .ref h0), (1, .int a), (2, .int b), (3, .int v249), (5, .int v250)]) hx hb dX7_isAlike_142 hl rfl (by decide) (by decide) (by omega) (by omega) (by decide) (fun _ => rfl) (fun x264 ls ex264 hl => ?_)
                      have hl : lv_has ls 6 [(4, .int x264), (0, .ref h0), (1, .int a), (2, .int b), (3, .int v249), (5, .int v250)] := hl
                      refine lv_goto (tgt := 24) hx hb dX7_isAlike_145 (by decide) ?_
                      exact ihlp150 v249 x264 _ _ ls (by omega) (by omega) (by omega) (by omega) hJ (lv_sub hl [1, 2, 3, 4, 0] rfl)
                    · refine lv_aload_n hx hb dX7_isAlike_91 rfl (lv_at hl 0 rfl) ?_
                      refine hp_getr (C := RX7) (T := TX7) (N := 24) (ci := 7) (kd := 11) hx hb hts iX7_isAlike_X7 hown hK hJ k0 rfl rfl 17 (by decide) (hts (.fieldLink RX7 58 "NeighborBookModel" "bytes" "[B") (List.mem_of_getElem? (i := 3) rfl)) (fun _ h9 => h9) rfl dX7_isAlike_92 (fun b265 kb265 => ?_)
                      refine hq_bipush hx hb dX7_isAlike_95 (by decide) (fun z266 ez266 => ?_)
                      refine lv_iload_n hx hb dX7_isAlike_97 rfl (lv_at hl 1 rfl) ?_
                      refine hq_imul (w := 9 * a.toInt) hx hb dX7_isAlike_98 (by rw [ez266]) (by omega) (by omega) (fun x267 ex267 => ?_)
                      refine lv_iload hx hb dX7_isAlike_99 (lv_at hl 4 rfl) ?_
                      refine hq_iadd hx hb dX7_isAlike_101 (by omega) (by omega) (fun x268 ex268 => ?_)
                      refine hq_bipush hx hb dX7_isAlike_102 (by decide) (fun z269 ez269 => ?_)
                      refine hq_imul (w := x268.toInt * 60) hx hb dX7_isAlike_104 (by rw [ez269]) (by omega) (by omega) (fun x270 ex270 => ?_)
                      refine lv_iload hx hb dX7_isAlike_105 (lv_at hl 5 rfl) ?_
                      refine hq_iadd hx hb dX7_isAlike_107 (by omega) (by omega) (fun x271 ex271 => ?_)
                      refine hp_bald (kd := 28) (n := 7020) hx hb hK hJ kb265 rfl (by omega) (by omega) (sp := (5, 0)) rfl rfl dX7_isAlike_108 (fun x272 ex272 => ?_)
                      have ex272 : -128 ≤ x272.toInt ∧ x272.toInt ≤ 127 := ex272
                      refine lv_aload_n hx hb dX7_isAlike_109 rfl (lv_at hl 0 rfl) ?_
                      refine hp_getr (C := RX7) (T := TX7) (N := 24) (ci := 7) (kd := 11) hx hb hts iX7_isAlike_X7 hown hK hJ k0 rfl rfl 17 (by decide) (hts (.fieldLink RX7 58 "NeighborBookModel" "bytes" "[B") (List.mem_of_getElem? (i := 3) rfl)) (fun _ h9 => h9) rfl dX7_isAlike_110 (fun b273 kb273 => ?_)
                      refine hq_bipush hx hb dX7_isAlike_113 (by decide) (fun z274 ez274 => ?_)
                      refine lv_iload_n hx hb dX7_isAlike_115 rfl (lv_at hl 2 rfl) ?_
                      refine hq_imul (w := 9 * b.toInt) hx hb dX7_isAlike_116 (by rw [ez274]) (by omega) (by omega) (fun x275 ex275 => ?_)
                      refine lv_iload hx hb dX7_isAlike_117 (lv_at hl 4 rfl) ?_
                      refine hq_iadd hx hb dX7_isAlike_119 (by omega) (by omega) (fun x276 ex276 => ?_)
                      refine hq_bipush hx hb dX7_isAlike_120 (by decide) (fun z277 ez277 => ?_)
                      refine hq_imul (w := x276.toInt * 60) hx hb dX7_isAlike_122 (by rw [ez277]) (by omega) (by omega) (fun x278 ex278 => ?_)
                      refine lv_iload hx hb dX7_isAlike_123 (lv_at hl 5 rfl) ?_
                      refine hq_iadd hx hb dX7_isAlike_125 (by omega) (by omega) (fun x279 ex279 => ?_)
                      refine hp_bald (kd := 28) (n := 7020) hx hb hK hJ kb273 rfl (by omega) (by omega) (sp := (5, 0)) rfl rfl dX7_isAlike_126 (fun x280 ex280 => ?_)
                      have ex280 : -128 ≤ x280.toInt ∧ x280.toInt ≤ 127 := ex280
                      refine hq_icmp_ne (tgt := 134) hx hb dX7_isAlike_127 (by decide) (fun c281 => ?_) (fun c281 => ?_)
                      · refine hq_iconst hx hb dX7_isAlike_134 (by decide) (by decide) (fun z282 ez282 => ?_)
                        refine lv_istore_n (lv' := [(3, .int z282), (0, .ref h0), (1, .int a), (2, .int b), (4, .int v149), (5, .int v250)]) hx hb dX7_isAlike_135 rfl hl (by decide) rfl (fun ls hl => ?_)
                        refine hq_iinc (k := 5) (lv' := fun (z9 : Int32) => [(5, .int z9), (3, .int z282), (0, .ref h0), (1, .int a), (2, .int b), (4, .int v149)]) hx hb dX7_isAlike_136 hl rfl (by decide) (by decide) (by omega) (by omega) (by decide) (fun _ => rfl) (fun x283 ls ex283 hl => ?_)
                        have hl : lv_has ls 6 [(5, .int x283), (3, .int z282), (0, .ref h0), (1, .int a), (2, .int b), (4, .int v149)] := hl
                        refine lv_goto (tgt := 70) hx hb dX7_isAlike_139 (by decide) ?_
                        exact ihlp251 z282 x283 _ _ ls (by omega) (by omega) (by omega) (by omega) hJ (lv_sub hl [2, 3, 4, 1, 5, 0] rfl)
                      · refine hq_iconst hx hb dX7_isAlike_130 (by decide) (by decide) (fun z284 ez284 => ?_)
                        refine lv_goto (tgt := 135) hx hb dX7_isAlike_131 (by decide) ?_
                        refine lv_istore_n (lv' := [(3, .int z284), (0, .ref h0), (1, .int a), (2, .int b), (4, .int v149), (5, .int v250)]) hx hb dX7_isAlike_135 rfl hl (by decide) rfl (fun ls hl => ?_)
                        refine hq_iinc (k := 5) (lv' := fun (z9 : Int32) => [(5, .int z9), (3, .int z284), (0, .ref h0), (1, .int a), (2, .int b), (4, .int v149)]) hx hb dX7_isAlike_136 hl rfl (by decide) (by decide) (by omega) (by omega) (by decide) (fun _ => rfl) (fun x285 ls ex285 hl => ?_)
                        have hl : lv_has ls 6 [(5, .int x285), (3, .int z284), (0, .ref h0), (1, .int a), (2, .int b), (4, .int v149)] := hl
                        refine lv_goto (tgt := 70) hx hb dX7_isAlike_139 (by decide) ?_
                        exact ihlp251 z284 x285 _ _ ls (by omega) (by omega) (by omega) (by omega) hJ (lv_sub hl [2, 3, 4, 1, 5, 0] rfl)
              exact lp251 ((61 - z248.toInt).toNat + 1) z247 z248 _ _ ls (by omega) (by omega) (by omega) (by omega) hJ (lv_sub hl [2, 3, 4, 1, 5, 0] rfl)
    exact lp150 ((4 - z147.toInt).toNat + 1) z146 z147 _ _ ls (by omega) (by omega) (by omega) (by omega) hJ (lv_sub hl [2, 3, 4, 1, 0] rfl)
