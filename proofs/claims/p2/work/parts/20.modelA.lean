set_option maxRecDepth 100000 in
set_option maxHeartbeats 4000000 in
theorem c_X7_isMore (l : Launch) (dC : Nat → ClassId) (dI : Nat → Nat → Nat) (dA : Nat → ClassId) (κ : Nat → Nat) (B : Nat) (g : Nat → Nat → Int) (type : Int32) : Met l yX7_isMore wsX7_isMore ({ frames := 0, cells := 0, slots := 0, locals := 0 } : Room) (hp_Pre dC dI dA κ B g [Value.int type]) (hp_Qi dC dI dA κ B (fun r u => g = u ∧ ((r.toInt = 1 ∧ 4 ≤ type.toInt ∧ type.toInt ≤ 8) ∨ (r.toInt = 0 ∧ (type.toInt < 4 ∨ 8 < type.toInt))))) 0 0 (hp_A B) := by
  refine Met.ofW (cc := cX7_isMore) (maxL := 1) (ret := (some .boolean)) (by decide) rfl ?_
  intro p e s m args below meth c s₁ Bd hml hv
  obtain ⟨rfl, hK, hN, hW, hF⟩ := hv
  have hx := Bd.exec
  have hb := Bd.bytes
  have hr := Bd.returns
  have hts := atoms_spec (ws := wsX7_isMore) Bd.pre
  have hown : s.vm.findClass RX7 = some m.cls := findClass_of_methodNamed Bd.named
  have hlocks := Bd.notSynchronized
  have hJ : hp_J dC dI dA κ B g s.heap s.heap [] := ⟨hF, va_S.rf⟩
  have hl := lv_entry ([Value.int type]) (n := 1) (Nat.le_of_ble_eq_true rfl)
  rw [lg_entry_eq]
  generalize (lg_sl ([Value.int type]) ++ List.replicate (1 - (lg_sl ([Value.int type])).length) Slot.unset).toArray = ls at hl ⊢
  have hl : lv_has ls 1 [(0, .int type)] := hl
  refine lv_iload_n hx hb dX7_isMore_0 rfl (lv_at hl 0 rfl) ?_
  refine hq_iconst hx hb dX7_isMore_1 (by decide) (by decide) (fun z1 ez1 => ?_)
  refine hq_icmp_lt (tgt := 15) hx hb dX7_isMore_2 (by decide) (fun c2 => ?_) (fun c2 => ?_)
  · refine hq_iconst hx hb dX7_isMore_15 (by decide) (by decide) (fun z3 ez3 => ?_)
    exact hp_zret hx hb hK hN hW hlocks hJ hr (by omega) ⟨rfl, by omega⟩ dX7_isMore_16
  · refine lv_iload_n hx hb dX7_isMore_5 rfl (lv_at hl 0 rfl) ?_
    refine hq_bipush hx hb dX7_isMore_6 (by decide) (fun z4 ez4 => ?_)
    refine hq_icmp_gt (tgt := 15) hx hb dX7_isMore_8 (by decide) (fun c5 => ?_) (fun c5 => ?_)
    · refine hq_iconst hx hb dX7_isMore_15 (by decide) (by decide) (fun z6 ez6 => ?_)
      exact hp_zret hx hb hK hN hW hlocks hJ hr (by omega) ⟨rfl, by omega⟩ dX7_isMore_16
    · refine hq_iconst hx hb dX7_isMore_11 (by decide) (by decide) (fun z7 ez7 => ?_)
      refine lv_goto (tgt := 16) hx hb dX7_isMore_12 (by decide) ?_
      exact hp_zret hx hb hK hN hW hlocks hJ hr (by omega) ⟨rfl, by omega⟩ dX7_isMore_16
theorem iX7_type_X7 : ∀ w ∈ wsX70, w ∈ wsX7_type := fun _ h => List.mem_cons_of_mem _ (List.mem_append_right _ h)
set_option maxRecDepth 100000 in
set_option maxHeartbeats 4000000 in
theorem c_X7_type (l : Launch) (dC : Nat → ClassId) (dI : Nat → Nat → Nat) (dA : Nat → ClassId) (κ : Nat → Nat) (B : Nat) (g : Nat → Nat → Int) (h0 : Nat) (k0 : κ h0 = 11) (w : Int64) (n : Int32) (hG : hg_k g) : Met l yX7_type wsX7_type ({ frames := 0, cells := 0, slots := 0, locals := 0 } : Room) (hp_Pre dC dI dA κ B g [Value.ref h0, Value.long w, Value.int n]) (hp_Qi dC dI dA κ B (fun r u => hg_P hx_e g u ∧ hg_k u ∧ (((1 ≤ n.toInt ∧ n.toInt ≤ 8 ∧ g 11 1 + n.toInt ≤ 700) ∧ u 11 1 = g 11 1 + n.toInt ∧ r.toInt = g 11 1 + n.toInt) ∨ (¬ (1 ≤ n.toInt ∧ n.toInt ≤ 8 ∧ g 11 1 + n.toInt ≤ 700) ∧ u 11 1 = g 11 1 ∧ r.toInt = -1)))) 0 0 (hp_A B) := by
  refine Met.ofW (cc := cX7_type) (maxL := 5) (ret := (some .int)) (by decide) rfl ?_
  intro p e s m args below meth c s₁ Bd hml hv
  obtain ⟨rfl, hK, hN, hW, hF⟩ := hv
  have hx := Bd.exec
  have hb := Bd.bytes
  have hr := Bd.returns
  have hts := atoms_spec (ws := wsX7_type) Bd.pre
  have hown : s.vm.findClass RX7 = some m.cls := findClass_of_methodNamed Bd.named
  have hlocks := Bd.notSynchronized
  have hJ : hp_J dC dI dA κ B g s.heap s.heap [] := ⟨hF, va_S.rf⟩
  have hl := lv_entry ([Value.ref h0, Value.long w, Value.int n]) (n := 5) (Nat.le_of_ble_eq_true rfl)
  rw [lg_entry_eq]
  generalize (lg_sl ([Value.ref h0, Value.long w, Value.int n]) ++ List.replicate (5 - (lg_sl ([Value.ref h0, Value.long w, Value.int n])).length) Slot.unset).toArray = ls at hl ⊢
  have hl : lv_has ls 5 [(0, .ref h0), (1, .long w), (3, .int n)] := hl
  obtain ⟨hG1, hG2, hG3, hG4, hG5, hG6, hG7, hG8⟩ := id hG
  refine lv_iload_n hx hb dX7_type_0 rfl (lv_at hl 2 rfl) ?_
  refine hq_iconst hx hb dX7_type_1 (by decide) (by decide) (fun z1 ez1 => ?_)
  refine hq_icmp_lt (tgt := 23) hx hb dX7_type_2 (by decide) (fun c2 => ?_) (fun c2 => ?_)
  · refine hq_iconst hx hb dX7_type_23 (by decide) (by decide) (fun z3 ez3 => ?_)
    exact hp_iret hx hb hK hN hW hlocks hJ hr ⟨hg_P.rf, hG, by omega⟩ dX7_type_24
  · refine lv_iload_n hx hb dX7_type_5 rfl (lv_at hl 2 rfl) ?_
    refine hq_bipush hx hb dX7_type_6 (by decide) (fun z4 ez4 => ?_)
    refine hq_icmp_gt (tgt := 23) hx hb dX7_type_8 (by decide) (fun c5 => ?_) (fun c5 => ?_)
    · refine hq_iconst hx hb dX7_type_23 (by decide) (by decide) (fun z6 ez6 => ?_)
      exact hp_iret hx hb hK hN hW hlocks hJ hr ⟨hg_P.rf, hG, by omega⟩ dX7_type_24
    · refine lv_aload_n hx hb dX7_type_11 rfl (lv_at hl 0 rfl) ?_
      refine hp_geti (C := RX7) (T := TX7) (N := 24) (ci := 7) (kd := 11) hx hb hts iX7_type_X7 hown hK hJ k0 rfl rfl 1 (by decide) (hts (.fieldLink RX7 70 "NeighborBookModel" "typedSize" "I") (List.mem_of_getElem? (i := 1) rfl)) (fun _ h9 => h9) rfl rfl dX7_type_12 (fun x7 ex7 => ?_)
      have ex7 : x7.toInt = g 11 1 := ex7
      refine lv_iload_n hx hb dX7_type_15 rfl (lv_at hl 2 rfl) ?_
      refine hq_iadd hx hb dX7_type_16 (by omega) (by omega) (fun x8 ex8 => ?_)
      refine hq_sipush hx hb dX7_type_17 (by decide) (fun z9 ez9 => ?_)
      refine hq_icmp_le (tgt := 25) hx hb dX7_type_20 (by decide) (fun c10 => ?_) (fun c10 => ?_)
      · refine lv_iload_n hx hb dX7_type_25 rfl (lv_at hl 2 rfl) ?_
        refine hq_iconst hx hb dX7_type_26 (by decide) (by decide) (fun z11 ez11 => ?_)
        refine hq_isub hx hb dX7_type_27 (by omega) (by omega) (fun x12 ex12 => ?_)
        refine lv_istore (lv' := [(4, .int x12), (0, .ref h0), (1, .long w), (3, .int n)]) hx hb dX7_type_28 hl (by decide) rfl (fun ls hl => ?_)
        have lp15 : ∀ (nlp15 : Nat) (v13 : Int32) (g14 : Nat → Nat → Int) (H : Heap) (locs : List Loc) (ls : Array Slot), (hg_P hx_e g g14) → (hg_k g14) → (-1 ≤ v13.toInt) → (v13.toInt ≤ 7) → (g14 11 1 + v13.toInt = g 11 1 + n.toInt - 1) → (v13.toInt + 2 < (nlp15 : Int)) → hp_J dC dI dA κ B g14 s.heap H locs → lv_has ls 5 [(0, .ref h0), (1, .long w), (3, .int n), (4, .int v13)] → W p l e (headSpec wsX7_type ({ frames := 0, cells := 0, slots := 0, locals := 0 } : Room)).room s m ([Value.ref h0, Value.long w, Value.int n] : List Value).toArray below meth c H locs 0 0 (MQ below (hp_Qi dC dI dA κ B (fun r u => hg_P hx_e g u ∧ hg_k u ∧ (((1 ≤ n.toInt ∧ n.toInt ≤ 8 ∧ g 11 1 + n.toInt ≤ 700) ∧ u 11 1 = g 11 1 + n.toInt ∧ r.toInt = g 11 1 + n.toInt) ∨ (¬ (1 ≤ n.toInt ∧ n.toInt ≤ 8 ∧ g 11 1 + n.toInt ≤ 700) ∧ u 11 1 = g 11 1 ∧ r.toInt = -1)))) ([Value.ref h0, Value.long w, Value.int n] : List Value).toArray s 0 0 (hp_A B)) (F0 m 30 ls []) := by
          intro nlp15
          induction nlp15 with
          | zero => intro v13 g14 H locs ls iv17 iv18 iv19 iv20 iv21 hm16 hJ hl; exact absurd hm16 (by omega)
          | succ nlp15 ihlp15 =>
            intro v13 g14 H locs ls iv17 iv18 iv19 iv20 iv21 hm16 hJ hl
            obtain ⟨hG1, hG2, hG3, hG4, hG5, hG6, hG7, hG8⟩ := id iv18
            refine lv_iload hx hb dX7_type_30 (lv_at hl 3 rfl) ?_
            refine hq_if_lt (tgt := 69) hx hb dX7_type_32 (by decide) (fun c22 => ?_) (fun c22 => ?_)
            · refine lv_aload_n hx hb dX7_type_69 rfl (lv_at hl 0 rfl) ?_
              refine hp_geti (C := RX7) (T := TX7) (N := 24) (ci := 7) (kd := 11) hx hb hts iX7_type_X7 hown hK hJ k0 rfl rfl 1 (by decide) (hts (.fieldLink RX7 70 "NeighborBookModel" "typedSize" "I") (List.mem_of_getElem? (i := 1) rfl)) (fun _ h9 => h9) rfl rfl dX7_type_70 (fun x23 ex23 => ?_)
              have ex23 : x23.toInt = g14 11 1 := ex23
              exact hp_iret hx hb hK hN hW hlocks hJ hr ⟨iv17, iv18, by omega⟩ dX7_type_73
            · refine lv_aload_n hx hb dX7_type_35 rfl (lv_at hl 0 rfl) ?_
              refine hp_getr (C := RX7) (T := TX7) (N := 24) (ci := 7) (kd := 11) hx hb hts iX7_type_X7 hown hK hJ k0 rfl rfl 0 (by decide) (hts (.fieldLink RX7 7 "NeighborBookModel" "typed" "[B") (List.mem_of_getElem? (i := 2) rfl)) (fun _ h9 => h9) rfl dX7_type_36 (fun b24 kb24 => ?_)
              refine lv_aload_n hx hb dX7_type_39 rfl (lv_at hl 0 rfl) ?_
              refine hp_geti (C := RX7) (T := TX7) (N := 24) (ci := 7) (kd := 11) hx hb hts iX7_type_X7 hown hK hJ k0 rfl rfl 1 (by decide) (hts (.fieldLink RX7 70 "NeighborBookModel" "typedSize" "I") (List.mem_of_getElem? (i := 1) rfl)) (fun _ h9 => h9) rfl rfl dX7_type_40 (fun x25 ex25 => ?_)
              have ex25 : x25.toInt = g14 11 1 := ex25
              refine lv_lload_n hx hb dX7_type_43 rfl (lv_at hl 1 rfl) ?_
              refine hq_bipush hx hb dX7_type_44 (by decide) (fun z26 ez26 => ?_)
              refine lv_iload hx hb dX7_type_46 (lv_at hl 3 rfl) ?_
              refine hq_imul (w := 8 * v13.toInt) hx hb dX7_type_48 (by rw [ez26]) (by omega) (by omega) (fun x27 ex27 => ?_)
              refine lv_lshr hx hb dX7_type_49 rfl ?_
              refine lv_topl (fun w28 _ => ?_)
              refine lv_l2i hx hb dX7_type_50 rfl ?_
              refine lv_topi (fun x29 _ => ?_)
              refine hq_i2b hx hb dX7_type_51 (fun x30 => ?_)
              refine hp_bast (kd := 12) (n := 700) hx hb hK hJ kb24 rfl (by omega) (by omega) (by decide) hW rfl dX7_type_52 (fun H locs hJ => ?_)
              refine lv_aload_n hx hb dX7_type_53 rfl (lv_at hl 0 rfl) ?_
              refine lv_dup hx hb dX7_type_54 rfl ?_
              refine hp_geti (C := RX7) (T := TX7) (N := 24) (ci := 7) (kd := 11) hx hb hts iX7_type_X7 hown hK hJ k0 rfl rfl 1 (by decide) (hts (.fieldLink RX7 70 "NeighborBookModel" "typedSize" "I") (List.mem_of_getElem? (i := 1) rfl)) (fun _ h9 => h9) rfl rfl dX7_type_55 (fun x31 ex31 => ?_)
              have ex31 : x31.toInt = g14 11 1 := ex31
              refine hq_iconst hx hb dX7_type_58 (by decide) (by decide) (fun z32 ez32 => ?_)
              refine hq_iadd hx hb dX7_type_59 (by omega) (by omega) (fun x33 ex33 => ?_)
              refine hp_putx (C := RX7) (T := TX7) (N := 24) (ci := 7) (kd := 11) hx hb hts iX7_type_X7 hown hK hJ k0 rfl rfl 1 (by decide) (hts (.fieldLink RX7 70 "NeighborBookModel" "typedSize" "I") (List.mem_of_getElem? (i := 1) rfl)) (fun _ h9 => h9) tyX7 tyX7_ok nmX7 (x := x33) rfl rfl (by decide) hW rfl rfl rfl dX7_type_60 (fun g34 H locs eg34 ng34 hJ => ?_)
              have eg34 : g34 11 1 = x33.toInt := eg34
              have P35 : hg_P hx_e g g34 := hg_P.put iv17 ng34 rfl
              have tt36 : g34 11 13 = g14 11 13 := ng34 11 13 (by decide)
              have tt37 : g34 11 22 = g14 11 22 := ng34 11 22 (by decide)
              refine hq_iinc (k := 3) (lv' := fun (z9 : Int32) => [(4, .int z9), (0, .ref h0), (1, .long w), (3, .int n)]) hx hb dX7_type_63 hl rfl (by decide) (by decide) (by omega) (by omega) (by decide) (fun _ => rfl) (fun x38 ls ex38 hl => ?_)
              have hl : lv_has ls 5 [(4, .int x38), (0, .ref h0), (1, .long w), (3, .int n)] := hl
              refine lv_goto (tgt := 30) hx hb dX7_type_66 (by decide) ?_
              exact ihlp15 x38 g34 _ _ ls P35 (hg_k.ofe hG P35 (by constructor <;> omega) (by constructor <;> omega) (by constructor <;> omega) ) (by omega) (by omega) (by omega) (by omega) hJ (lv_sub hl [1, 2, 3, 0] rfl)
        exact lp15 ((x12.toInt + 2).toNat + 1) x12 g _ _ ls hg_P.rf hG (by omega) (by omega) (by omega) (by omega) hJ (lv_sub hl [1, 2, 3, 0] rfl)
      · refine hq_iconst hx hb dX7_type_23 (by decide) (by decide) (fun z39 ez39 => ?_)
        exact hp_iret hx hb hK hN hW hlocks hJ hr ⟨hg_P.rf, hG, by omega⟩ dX7_type_24
theorem iX7_tell_X7 : ∀ w ∈ wsX70, w ∈ wsX7_tell := fun _ h => List.mem_cons_of_mem _ (List.mem_append_right _ h)
set_option maxRecDepth 100000 in
set_option maxHeartbeats 4000000 in
theorem c_X7_tell (l : Launch) (dC : Nat → ClassId) (dI : Nat → Nat → Nat) (dA : Nat → ClassId) (κ : Nat → Nat) (B : Nat) (g : Nat → Nat → Int) (h0 : Nat) (k0 : κ h0 = 11) (what : Int32) (hG : hg_k g) : Met l yX7_tell wsX7_tell ({ frames := 1, cells := 0, slots := 0, locals := 20 } : Room) (hp_Pre dC dI dA κ B g [Value.ref h0, Value.int what]) (hp_Qi dC dI dA κ B (fun r u => hg_P hx_e g u ∧ hg_k u ∧ (((((what.toInt = 1 ∨ what.toInt = 2) ∧ 2 ≤ g 11 1 ∧ g 11 1 ≤ 59) ∨ (4 ≤ what.toInt ∧ what.toInt ≤ 8 ∧ g 11 1 ≤ 60)) ∧ u 11 1 = 0 ∧ r.toInt = 1) ∨ (¬ (((what.toInt = 1 ∨ what.toInt = 2) ∧ 2 ≤ g 11 1 ∧ g 11 1 ≤ 59) ∨ (4 ≤ what.toInt ∧ what.toInt ≤ 8 ∧ g 11 1 ≤ 60)) ∧ u 11 1 = g 11 1 ∧ r.toInt = 0)))) 0 0 (hp_A B) := by
  refine Met.ofW (cc := cX7_tell) (maxL := 4) (ret := (some .int)) (by decide) rfl ?_
  intro p e s m args below meth c s₁ Bd hml hv
  obtain ⟨rfl, hK, hN, hW, hF⟩ := hv
  have hx := Bd.exec
  have hb := Bd.bytes
  have hr := Bd.returns
  have hts := atoms_spec (ws := wsX7_tell) Bd.pre
  have hown : s.vm.findClass RX7 = some m.cls := findClass_of_methodNamed Bd.named
  have hlocks := Bd.notSynchronized
  have hJ : hp_J dC dI dA κ B g s.heap s.heap [] := ⟨hF, va_S.rf⟩
  have hl := lv_entry ([Value.ref h0, Value.int what]) (n := 4) (Nat.le_of_ble_eq_true rfl)
  rw [lg_entry_eq]
  generalize (lg_sl ([Value.ref h0, Value.int what]) ++ List.replicate (4 - (lg_sl ([Value.ref h0, Value.int what])).length) Slot.unset).toArray = ls at hl ⊢
  have hl : lv_has ls 4 [(0, .ref h0), (1, .int what)] := hl
  obtain ⟨hG1, hG2, hG3, hG4, hG5, hG6, hG7, hG8⟩ := id hG
  have ct1 : ∀ (H : Heap) (locs : List Loc) (ls : Array Slot), ((((what.toInt = 1 ∨ what.toInt = 2) ∧ 2 ≤ g 11 1 ∧ g 11 1 ≤ 59) ∨ (4 ≤ what.toInt ∧ what.toInt ≤ 8 ∧ g 11 1 ≤ 60))) → hp_J dC dI dA κ B g s.heap H locs → lv_has ls 4 [(0, .ref h0), (1, .int what)] → W p l e (headSpec wsX7_tell ({ frames := 1, cells := 0, slots := 0, locals := 20 } : Room)).room s m ([Value.ref h0, Value.int what] : List Value).toArray below meth c H locs 0 0 (MQ below (hp_Qi dC dI dA κ B (fun r u => hg_P hx_e g u ∧ hg_k u ∧ (((((what.toInt = 1 ∨ what.toInt = 2) ∧ 2 ≤ g 11 1 ∧ g 11 1 ≤ 59) ∨ (4 ≤ what.toInt ∧ what.toInt ≤ 8 ∧ g 11 1 ≤ 60)) ∧ u 11 1 = 0 ∧ r.toInt = 1) ∨ (¬ (((what.toInt = 1 ∨ what.toInt = 2) ∧ 2 ≤ g 11 1 ∧ g 11 1 ≤ 59) ∨ (4 ≤ what.toInt ∧ what.toInt ≤ 8 ∧ g 11 1 ≤ 60)) ∧ u 11 1 = g 11 1 ∧ r.toInt = 0)))) ([Value.ref h0, Value.int what] : List Value).toArray s 0 0 (hp_A B)) (F0 m 64 ls []) := by
    intro  H locs ls iv2 hJ hl
    refine hq_iconst hx hb dX7_tell_64 (by decide) (by decide) (fun z3 ez3 => ?_)
    refine lv_istore_n (lv' := [(3, .int z3), (0, .ref h0), (1, .int what)]) hx hb dX7_tell_65 rfl hl (by decide) rfl (fun ls hl => ?_)
    have lp5 : ∀ (nlp5 : Nat) (v4 : Int32) (H : Heap) (locs : List Loc) (ls : Array Slot), (0 ≤ v4.toInt) → (v4.toInt ≤ 60) → (61 - v4.toInt < (nlp5 : Int)) → hp_J dC dI dA κ B g s.heap H locs → lv_has ls 4 [(0, .ref h0), (1, .int what), (3, .int v4)] → W p l e (headSpec wsX7_tell ({ frames := 1, cells := 0, slots := 0, locals := 20 } : Room)).room s m ([Value.ref h0, Value.int what] : List Value).toArray below meth c H locs 0 0 (MQ below (hp_Qi dC dI dA κ B (fun r u => hg_P hx_e g u ∧ hg_k u ∧ (((((what.toInt = 1 ∨ what.toInt = 2) ∧ 2 ≤ g 11 1 ∧ g 11 1 ≤ 59) ∨ (4 ≤ what.toInt ∧ what.toInt ≤ 8 ∧ g 11 1 ≤ 60)) ∧ u 11 1 = 0 ∧ r.toInt = 1) ∨ (¬ (((what.toInt = 1 ∨ what.toInt = 2) ∧ 2 ≤ g 11 1 ∧ g 11 1 ≤ 59) ∨ (4 ≤ what.toInt ∧ what.toInt ≤ 8 ∧ g 11 1 ≤ 60)) ∧ u 11 1 = g 11 1 ∧ r.toInt = 0)))) ([Value.ref h0, Value.int what] : List Value).toArray s 0 0 (hp_A B)) (F0 m 66 ls []) := by
      intro nlp5
      induction nlp5 with
      | zero => intro v4 H locs ls iv7 iv8 hm6 hJ hl; exact absurd hm6 (by omega)
      | succ nlp5 ihlp5 =>
        intro v4 H locs ls iv7 iv8 hm6 hJ hl
        refine lv_iload_n hx hb dX7_tell_66 rfl (lv_at hl 2 rfl) ?_
        refine lv_aload_n hx hb dX7_tell_67 rfl (lv_at hl 0 rfl) ?_
        refine hp_geti (C := RX7) (T := TX7) (N := 24) (ci := 7) (kd := 11) hx hb hts iX7_tell_X7 hown hK hJ k0 rfl rfl 1 (by decide) (hts (.fieldLink RX7 70 "NeighborBookModel" "typedSize" "I") (List.mem_of_getElem? (i := 1) rfl)) (fun _ h9 => h9) rfl rfl dX7_tell_68 (fun x9 ex9 => ?_)
        have ex9 : x9.toInt = g 11 1 := ex9
        refine hq_icmp_ge (tgt := 97) hx hb dX7_tell_71 (by decide) (fun c10 => ?_) (fun c10 => ?_)
        · refine lv_aload_n hx hb dX7_tell_97 rfl (lv_at hl 0 rfl) ?_
          refine hp_getr (C := RX7) (T := TX7) (N := 24) (ci := 7) (kd := 11) hx hb hts iX7_tell_X7 hown hK hJ k0 rfl rfl 3 (by decide) (hts (.fieldLink RX7 16 "NeighborBookModel" "ownSizes" "[I") (List.mem_of_getElem? (i := 4) rfl)) (fun _ h9 => h9) rfl dX7_tell_98 (fun b11 kb11 => ?_)
          refine lv_iload_n hx hb dX7_tell_101 rfl (lv_at hl 1 rfl) ?_
          refine lv_aload_n hx hb dX7_tell_102 rfl (lv_at hl 0 rfl) ?_
          refine hp_geti (C := RX7) (T := TX7) (N := 24) (ci := 7) (kd := 11) hx hb hts iX7_tell_X7 hown hK hJ k0 rfl rfl 1 (by decide) (hts (.fieldLink RX7 70 "NeighborBookModel" "typedSize" "I") (List.mem_of_getElem? (i := 1) rfl)) (fun _ h9 => h9) rfl rfl dX7_tell_103 (fun x12 ex12 => ?_)
          have ex12 : x12.toInt = g 11 1 := ex12
          refine hq_if_ne (tgt := 113) hx hb dX7_tell_106 (by decide) (fun c13 => ?_) (fun c13 => ?_)
          · refine lv_aload_n hx hb dX7_tell_113 rfl (lv_at hl 0 rfl) ?_
            refine hp_geti (C := RX7) (T := TX7) (N := 24) (ci := 7) (kd := 11) hx hb hts iX7_tell_X7 hown hK hJ k0 rfl rfl 1 (by decide) (hts (.fieldLink RX7 70 "NeighborBookModel" "typedSize" "I") (List.mem_of_getElem? (i := 1) rfl)) (fun _ h9 => h9) rfl rfl dX7_tell_114 (fun x14 ex14 => ?_)
            have ex14 : x14.toInt = g 11 1 := ex14
            refine hp_iast (kd := 19) (n := 9) hx hb hK hJ kb11 rfl (by omega) (by omega) (by decide) hW (sp := (3, 60)) rfl rfl (show _ ∧ _ from by constructor <;> omega) dX7_tell_117 (fun H locs hJ => ?_)
            refine lv_aload_n hx hb dX7_tell_118 rfl (lv_at hl 0 rfl) ?_
            refine hq_iconst hx hb dX7_tell_119 (by decide) (by decide) (fun z15 ez15 => ?_)
            refine hp_putx (C := RX7) (T := TX7) (N := 24) (ci := 7) (kd := 11) hx hb hts iX7_tell_X7 hown hK hJ k0 rfl rfl 1 (by decide) (hts (.fieldLink RX7 70 "NeighborBookModel" "typedSize" "I") (List.mem_of_getElem? (i := 1) rfl)) (fun _ h9 => h9) tyX7 tyX7_ok nmX7 (x := z15) rfl rfl (by decide) hW rfl rfl rfl dX7_tell_120 (fun g16 H locs eg16 ng16 hJ => ?_)
            have eg16 : g16 11 1 = z15.toInt := eg16
            have P17 : hg_P hx_e g g16 := hg_P.put hg_P.rf ng16 rfl
            have tt18 : g16 11 13 = g 11 13 := ng16 11 13 (by decide)
            have tt19 : g16 11 22 = g 11 22 := ng16 11 22 (by decide)
            refine hq_iconst hx hb dX7_tell_123 (by decide) (by decide) (fun z20 ez20 => ?_)
            refine lv_istore_n (lv' := [(3, .int z20), (0, .ref h0), (1, .int what)]) hx hb dX7_tell_124 rfl hl (by decide) rfl (fun ls hl => ?_)
            have lp23 : ∀ (nlp23 : Nat) (v21 : Int32) (g22 : Nat → Nat → Int) (H : Heap) (locs : List Loc) (ls : Array Slot), (hg_P hx_e g g22) → (hg_k g22) → (0 ≤ v21.toInt) → (v21.toInt ≤ 4) → (g22 11 1 = 0) → (5 - v21.toInt < (nlp23 : Int)) → hp_J dC dI dA κ B g22 s.heap H locs → lv_has ls 4 [(0, .ref h0), (1, .int what), (3, .int v21)] → W p l e (headSpec wsX7_tell ({ frames := 1, cells := 0, slots := 0, locals := 20 } : Room)).room s m ([Value.ref h0, Value.int what] : List Value).toArray below meth c H locs 0 0 (MQ below (hp_Qi dC dI dA κ B (fun r u => hg_P hx_e g u ∧ hg_k u ∧ (((((what.toInt = 1 ∨ what.toInt = 2) ∧ 2 ≤ g 11 1 ∧ g 11 1 ≤ 59) ∨ (4 ≤ what.toInt ∧ what.toInt ≤ 8 ∧ g 11 1 ≤ 60)) ∧ u 11 1 = 0 ∧ r.toInt = 1) ∨ (¬ (((what.toInt = 1 ∨ what.toInt = 2) ∧ 2 ≤ g 11 1 ∧ g 11 1 ≤ 59) ∨ (4 ≤ what.toInt ∧ what.toInt ≤ 8 ∧ g 11 1 ≤ 60)) ∧ u 11 1 = g 11 1 ∧ r.toInt = 0)))) ([Value.ref h0, Value.int what] : List Value).toArray s 0 0 (hp_A B)) (F0 m 125 ls []) := by
              intro nlp23
              induction nlp23 with
              | zero => intro v21 g22 H locs ls iv25 iv26 iv27 iv28 iv29 hm24 hJ hl; exact absurd hm24 (by omega)
              | succ nlp23 ihlp23 =>
                intro v21 g22 H locs ls iv25 iv26 iv27 iv28 iv29 hm24 hJ hl
                obtain ⟨hG1, hG2, hG3, hG4, hG5, hG6, hG7, hG8⟩ := id iv26
                refine lv_iload_n hx hb dX7_tell_125 rfl (lv_at hl 2 rfl) ?_
                refine hq_iconst hx hb dX7_tell_126 (by decide) (by decide) (fun z30 ez30 => ?_)
                refine hq_icmp_ge (tgt := 156) hx hb dX7_tell_127 (by decide) (fun c31 => ?_) (fun c31 => ?_)
                · refine hq_iconst hx hb dX7_tell_156 (by decide) (by decide) (fun z32 ez32 => ?_)
                  exact hp_iret hx hb hK hN hW hlocks hJ hr ⟨iv25, iv26, by omega⟩ dX7_tell_157
                · refine lv_aload_n hx hb dX7_tell_130 rfl (lv_at hl 0 rfl) ?_
                  refine hp_getr (C := RX7) (T := TX7) (N := 24) (ci := 7) (kd := 11) hx hb hts iX7_tell_X7 hown hK hJ k0 rfl rfl 11 (by decide) (hts (.fieldLink RX7 43 "NeighborBookModel" "waits" "[I") (List.mem_of_getElem? (i := 5) rfl)) (fun _ h9 => h9) rfl dX7_tell_131 (fun b33 kb33 => ?_)
                  refine lv_iload_n hx hb dX7_tell_134 rfl (lv_at hl 2 rfl) ?_
                  refine lv_aload_n hx hb dX7_tell_135 rfl (lv_at hl 0 rfl) ?_
                  refine hp_getr (C := RX7) (T := TX7) (N := 24) (ci := 7) (kd := 11) hx hb hts iX7_tell_X7 hown hK hJ k0 rfl rfl 7 (by decide) (hts (.fieldLink RX7 30 "NeighborBookModel" "up" "[Z") (List.mem_of_getElem? (i := 6) rfl)) (fun _ h9 => h9) rfl dX7_tell_136 (fun b34 kb34 => ?_)
                  refine lv_iload_n hx hb dX7_tell_139 rfl (lv_at hl 2 rfl) ?_
                  refine hp_zald (kd := 20) (n := 4) hx hb hK hJ kb34 rfl (by omega) (by omega) (sp := (0, 0)) rfl rfl dX7_tell_140 (fun x35 ex35 => ?_)
                  have ex35 : x35.toInt = g22 20 v21.toInt.toNat := ex35
                  refine hq_if_eq (tgt := 148) hx hb dX7_tell_141 (by decide) (fun c36 => ?_) (fun c36 => ?_)
                  · refine hq_iconst hx hb dX7_tell_148 (by decide) (by decide) (fun z37 ez37 => ?_)
                    refine hp_iastx (kd := 24) (n := 4) hx hb hK hJ kb33 rfl (by omega) (by omega) (by decide) hW rfl rfl dX7_tell_149 (fun g38 H locs eg38 ng38 hJ => ?_)
                    have P39 : hg_P hx_e g g38 := hg_P.put iv25 ng38 rfl
                    have tt40 : g38 11 1 = g22 11 1 := ng38 11 1 (by omega)
                    have tt41 : g38 11 13 = g22 11 13 := ng38 11 13 (by omega)
                    have tt42 : g38 11 22 = g22 11 22 := ng38 11 22 (by omega)
                    refine hq_iinc (k := 2) (lv' := fun (z9 : Int32) => [(3, .int z9), (0, .ref h0), (1, .int what)]) hx hb dX7_tell_150 hl rfl (by decide) (by decide) (by omega) (by omega) (by decide) (fun _ => rfl) (fun x43 ls ex43 hl => ?_)
                    have hl : lv_has ls 4 [(3, .int x43), (0, .ref h0), (1, .int what)] := hl
                    refine lv_goto (tgt := 125) hx hb dX7_tell_153 (by decide) ?_
                    exact ihlp23 x43 g38 _ _ ls P39 (hg_k.ofe hG P39 (by constructor <;> omega) (by constructor <;> omega) (by constructor <;> omega) ) (by omega) (by omega) (by omega) (by omega) hJ (lv_sub hl [1, 2, 0] rfl)
                  · refine hq_iconst hx hb dX7_tell_144 (by decide) (by decide) (fun z44 ez44 => ?_)
                    refine lv_goto (tgt := 149) hx hb dX7_tell_145 (by decide) ?_
                    refine hp_iastx (kd := 24) (n := 4) hx hb hK hJ kb33 rfl (by omega) (by omega) (by decide) hW rfl rfl dX7_tell_149 (fun g45 H locs eg45 ng45 hJ => ?_)
                    have P46 : hg_P hx_e g g45 := hg_P.put iv25 ng45 rfl
                    have tt47 : g45 11 1 = g22 11 1 := ng45 11 1 (by omega)
                    have tt48 : g45 11 13 = g22 11 13 := ng45 11 13 (by omega)
                    have tt49 : g45 11 22 = g22 11 22 := ng45 11 22 (by omega)
                    refine hq_iinc (k := 2) (lv' := fun (z9 : Int32) => [(3, .int z9), (0, .ref h0), (1, .int what)]) hx hb dX7_tell_150 hl rfl (by decide) (by decide) (by omega) (by omega) (by decide) (fun _ => rfl) (fun x50 ls ex50 hl => ?_)
                    have hl : lv_has ls 4 [(3, .int x50), (0, .ref h0), (1, .int what)] := hl
                    refine lv_goto (tgt := 125) hx hb dX7_tell_153 (by decide) ?_
                    exact ihlp23 x50 g45 _ _ ls P46 (hg_k.ofe hG P46 (by constructor <;> omega) (by constructor <;> omega) (by constructor <;> omega) ) (by omega) (by omega) (by omega) (by omega) hJ (lv_sub hl [1, 2, 0] rfl)
            exact lp23 ((5 - z20.toInt).toNat + 1) z20 g16 _ _ ls P17 (hg_k.ofe hG P17 (by constructor <;> omega) (by constructor <;> omega) (by constructor <;> omega) ) (by omega) (by omega) (by omega) (by omega) hJ (lv_sub hl [1, 2, 0] rfl)
          · refine hq_iconst hx hb dX7_tell_109 (by decide) (by decide) (fun z51 ez51 => ?_)
            refine lv_goto (tgt := 117) hx hb dX7_tell_110 (by decide) ?_
            refine hp_iast (kd := 19) (n := 9) hx hb hK hJ kb11 rfl (by omega) (by omega) (by decide) hW (sp := (3, 60)) rfl rfl (show _ ∧ _ from by constructor <;> omega) dX7_tell_117 (fun H locs hJ => ?_)
            refine lv_aload_n hx hb dX7_tell_118 rfl (lv_at hl 0 rfl) ?_
            refine hq_iconst hx hb dX7_tell_119 (by decide) (by decide) (fun z52 ez52 => ?_)
            refine hp_putx (C := RX7) (T := TX7) (N := 24) (ci := 7) (kd := 11) hx hb hts iX7_tell_X7 hown hK hJ k0 rfl rfl 1 (by decide) (hts (.fieldLink RX7 70 "NeighborBookModel" "typedSize" "I") (List.mem_of_getElem? (i := 1) rfl)) (fun _ h9 => h9) tyX7 tyX7_ok nmX7 (x := z52) rfl rfl (by decide) hW rfl rfl rfl dX7_tell_120 (fun g53 H locs eg53 ng53 hJ => ?_)
            have eg53 : g53 11 1 = z52.toInt := eg53
            have P54 : hg_P hx_e g g53 := hg_P.put hg_P.rf ng53 rfl
            have tt55 : g53 11 13 = g 11 13 := ng53 11 13 (by decide)
            have tt56 : g53 11 22 = g 11 22 := ng53 11 22 (by decide)
            refine hq_iconst hx hb dX7_tell_123 (by decide) (by decide) (fun z57 ez57 => ?_)
            refine lv_istore_n (lv' := [(3, .int z57), (0, .ref h0), (1, .int what)]) hx hb dX7_tell_124 rfl hl (by decide) rfl (fun ls hl => ?_)
            have lp60 : ∀ (nlp60 : Nat) (v58 : Int32) (g59 : Nat → Nat → Int) (H : Heap) (locs : List Loc) (ls : Array Slot), (hg_P hx_e g g59) → (hg_k g59) → (0 ≤ v58.toInt) → (v58.toInt ≤ 4) → (g59 11 1 = 0) → (5 - v58.toInt < (nlp60 : Int)) → hp_J dC dI dA κ B g59 s.heap H locs → lv_has ls 4 [(0, .ref h0), (1, .int what), (3, .int v58)] → W p l e (headSpec wsX7_tell ({ frames := 1, cells := 0, slots := 0, locals := 20 } : Room)).room s m ([Value.ref h0, Value.int what] : List Value).toArray below meth c H locs 0 0 (MQ below (hp_Qi dC dI dA κ B (fun r u => hg_P hx_e g u ∧ hg_k u ∧ (((((what.toInt = 1 ∨ what.toInt = 2) ∧ 2 ≤ g 11 1 ∧ g 11 1 ≤ 59) ∨ (4 ≤ what.toInt ∧ what.toInt ≤ 8 ∧ g 11 1 ≤ 60)) ∧ u 11 1 = 0 ∧ r.toInt = 1) ∨ (¬ (((what.toInt = 1 ∨ what.toInt = 2) ∧ 2 ≤ g 11 1 ∧ g 11 1 ≤ 59) ∨ (4 ≤ what.toInt ∧ what.toInt ≤ 8 ∧ g 11 1 ≤ 60)) ∧ u 11 1 = g 11 1 ∧ r.toInt = 0)))) ([Value.ref h0, Value.int what] : List Value).toArray s 0 0 (hp_A B)) (F0 m 125 ls []) := by
              intro nlp60
              induction nlp60 with
              | zero => intro v58 g59 H locs ls iv62 iv63 iv64 iv65 iv66 hm61 hJ hl; exact absurd hm61 (by omega)
              | succ nlp60 ihlp60 =>
                intro v58 g59 H locs ls iv62 iv63 iv64 iv65 iv66 hm61 hJ hl
                obtain ⟨hG1, hG2, hG3, hG4, hG5, hG6, hG7, hG8⟩ := id iv63
                refine lv_iload_n hx hb dX7_tell_125 rfl (lv_at hl 2 rfl) ?_
                refine hq_iconst hx hb dX7_tell_126 (by decide) (by decide) (fun z67 ez67 => ?_)
                refine hq_icmp_ge (tgt := 156) hx hb dX7_tell_127 (by decide) (fun c68 => ?_) (fun c68 => ?_)
                · refine hq_iconst hx hb dX7_tell_156 (by decide) (by decide) (fun z69 ez69 => ?_)
                  exact hp_iret hx hb hK hN hW hlocks hJ hr ⟨iv62, iv63, by omega⟩ dX7_tell_157
                · refine lv_aload_n hx hb dX7_tell_130 rfl (lv_at hl 0 rfl) ?_
                  refine hp_getr (C := RX7) (T := TX7) (N := 24) (ci := 7) (kd := 11) hx hb hts iX7_tell_X7 hown hK hJ k0 rfl rfl 11 (by decide) (hts (.fieldLink RX7 43 "NeighborBookModel" "waits" "[I") (List.mem_of_getElem? (i := 5) rfl)) (fun _ h9 => h9) rfl dX7_tell_131 (fun b70 kb70 => ?_)
                  refine lv_iload_n hx hb dX7_tell_134 rfl (lv_at hl 2 rfl) ?_
                  refine lv_aload_n hx hb dX7_tell_135 rfl (lv_at hl 0 rfl) ?_
                  refine hp_getr (C := RX7) (T := TX7) (N := 24) (ci := 7) (kd := 11) hx hb hts iX7_tell_X7 hown hK hJ k0 rfl rfl 7 (by decide) (hts (.fieldLink RX7 30 "NeighborBookModel" "up" "[Z") (List.mem_of_getElem? (i := 6) rfl)) (fun _ h9 => h9) rfl dX7_tell_136 (fun b71 kb71 => ?_)
                  refine lv_iload_n hx hb dX7_tell_139 rfl (lv_at hl 2 rfl) ?_
                  refine hp_zald (kd := 20) (n := 4) hx hb hK hJ kb71 rfl (by omega) (by omega) (sp := (0, 0)) rfl rfl dX7_tell_140 (fun x72 ex72 => ?_)
                  have ex72 : x72.toInt = g59 20 v58.toInt.toNat := ex72
                  refine hq_if_eq (tgt := 148) hx hb dX7_tell_141 (by decide) (fun c73 => ?_) (fun c73 => ?_)
                  · refine hq_iconst hx hb dX7_tell_148 (by decide) (by decide) (fun z74 ez74 => ?_)
                    refine hp_iastx (kd := 24) (n := 4) hx hb hK hJ kb70 rfl (by omega) (by omega) (by decide) hW rfl rfl dX7_tell_149 (fun g75 H locs eg75 ng75 hJ => ?_)
                    have P76 : hg_P hx_e g g75 := hg_P.put iv62 ng75 rfl
                    have tt77 : g75 11 1 = g59 11 1 := ng75 11 1 (by omega)
                    have tt78 : g75 11 13 = g59 11 13 := ng75 11 13 (by omega)
                    have tt79 : g75 11 22 = g59 11 22 := ng75 11 22 (by omega)
                    refine hq_iinc (k := 2) (lv' := fun (z9 : Int32) => [(3, .int z9), (0, .ref h0), (1, .int what)]) hx hb dX7_tell_150 hl rfl (by decide) (by decide) (by omega) (by omega) (by decide) (fun _ => rfl) (fun x80 ls ex80 hl => ?_)
                    have hl : lv_has ls 4 [(3, .int x80), (0, .ref h0), (1, .int what)] := hl
                    refine lv_goto (tgt := 125) hx hb dX7_tell_153 (by decide) ?_
                    exact ihlp60 x80 g75 _ _ ls P76 (hg_k.ofe hG P76 (by constructor <;> omega) (by constructor <;> omega) (by constructor <;> omega) ) (by omega) (by omega) (by omega) (by omega) hJ (lv_sub hl [1, 2, 0] rfl)
                  · refine hq_iconst hx hb dX7_tell_144 (by decide) (by decide) (fun z81 ez81 => ?_)
                    refine lv_goto (tgt := 149) hx hb dX7_tell_145 (by decide) ?_
                    refine hp_iastx (kd := 24) (n := 4) hx hb hK hJ kb70 rfl (by omega) (by omega) (by decide) hW rfl rfl dX7_tell_149 (fun g82 H locs eg82 ng82 hJ => ?_)
                    have P83 : hg_P hx_e g g82 := hg_P.put iv62 ng82 rfl
                    have tt84 : g82 11 1 = g59 11 1 := ng82 11 1 (by omega)
                    have tt85 : g82 11 13 = g59 11 13 := ng82 11 13 (by omega)
                    have tt86 : g82 11 22 = g59 11 22 := ng82 11 22 (by omega)
                    refine hq_iinc (k := 2) (lv' := fun (z9 : Int32) => [(3, .int z9), (0, .ref h0), (1, .int what)]) hx hb dX7_tell_150 hl rfl (by decide) (by decide) (by omega) (by omega) (by decide) (fun _ => rfl) (fun x87 ls ex87 hl => ?_)
                    have hl : lv_has ls 4 [(3, .int x87), (0, .ref h0), (1, .int what)] := hl
                    refine lv_goto (tgt := 125) hx hb dX7_tell_153 (by decide) ?_
                    exact ihlp60 x87 g82 _ _ ls P83 (hg_k.ofe hG P83 (by constructor <;> omega) (by constructor <;> omega) (by constructor <;> omega) ) (by omega) (by omega) (by omega) (by omega) hJ (lv_sub hl [1, 2, 0] rfl)
            exact lp60 ((5 - z57.toInt).toNat + 1) z57 g53 _ _ ls P54 (hg_k.ofe hG P54 (by constructor <;> omega) (by constructor <;> omega) (by constructor <;> omega) ) (by omega) (by omega) (by omega) (by omega) hJ (lv_sub hl [1, 2, 0] rfl)
        · refine lv_aload_n hx hb dX7_tell_74 rfl (lv_at hl 0 rfl) ?_
          refine hp_getr (C := RX7) (T := TX7) (N := 24) (ci := 7) (kd := 11) hx hb hts iX7_tell_X7 hown hK hJ k0 rfl rfl 2 (by decide) (hts (.fieldLink RX7 13 "NeighborBookModel" "own" "[B") (List.mem_of_getElem? (i := 2) rfl)) (fun _ h9 => h9) rfl dX7_tell_75 (fun b88 kb88 => ?_)
          refine hq_bipush hx hb dX7_tell_78 (by decide) (fun z89 ez89 => ?_)
          refine lv_iload_n hx hb dX7_tell_80 rfl (lv_at hl 1 rfl) ?_
          refine hq_imul (w := 60 * what.toInt) hx hb dX7_tell_81 (by rw [ez89]) (by omega) (by omega) (fun x90 ex90 => ?_)
          refine lv_iload_n hx hb dX7_tell_82 rfl (lv_at hl 2 rfl) ?_
          refine hq_iadd hx hb dX7_tell_83 (by omega) (by omega) (fun x91 ex91 => ?_)
          refine lv_aload_n hx hb dX7_tell_84 rfl (lv_at hl 0 rfl) ?_
          refine hp_getr (C := RX7) (T := TX7) (N := 24) (ci := 7) (kd := 11) hx hb hts iX7_tell_X7 hown hK hJ k0 rfl rfl 0 (by decide) (hts (.fieldLink RX7 7 "NeighborBookModel" "typed" "[B") (List.mem_of_getElem? (i := 3) rfl)) (fun _ h9 => h9) rfl dX7_tell_85 (fun b92 kb92 => ?_)
          refine lv_iload_n hx hb dX7_tell_88 rfl (lv_at hl 2 rfl) ?_
          refine hp_bald (kd := 12) (n := 700) hx hb hK hJ kb92 rfl (by omega) (by omega) (sp := (5, 0)) rfl rfl dX7_tell_89 (fun x93 ex93 => ?_)
          have ex93 : -128 ≤ x93.toInt ∧ x93.toInt ≤ 127 := ex93
          refine hp_bast (kd := 18) (n := 540) hx hb hK hJ kb88 rfl (by omega) (by omega) (by decide) hW rfl dX7_tell_90 (fun H locs hJ => ?_)
          refine hq_iinc (k := 2) (lv' := fun (z9 : Int32) => [(3, .int z9), (0, .ref h0), (1, .int what)]) hx hb dX7_tell_91 hl rfl (by decide) (by decide) (by omega) (by omega) (by decide) (fun _ => rfl) (fun x94 ls ex94 hl => ?_)
          have hl : lv_has ls 4 [(3, .int x94), (0, .ref h0), (1, .int what)] := hl
          refine lv_goto (tgt := 66) hx hb dX7_tell_94 (by decide) ?_
          exact ihlp5 x94 _ _ ls (by omega) (by omega) (by omega) hJ (lv_sub hl [1, 2, 0] rfl)
    exact lp5 ((61 - z3.toInt).toNat + 1) z3 _ _ ls (by omega) (by omega) (by omega) hJ (lv_sub hl [1, 2, 0] rfl)
  refine lv_iload_n hx hb dX7_tell_0 rfl (lv_at hl 1 rfl) ?_
  refine hq_iconst hx hb dX7_tell_1 (by decide) (by decide) (fun z95 ez95 => ?_)
  refine hq_icmp_eq (tgt := 10) hx hb dX7_tell_2 (by decide) (fun c96 => ?_) (fun c96 => ?_)
  · refine hq_iconst hx hb dX7_tell_10 (by decide) (by decide) (fun z97 ez97 => ?_)
    refine lv_goto (tgt := 15) hx hb dX7_tell_11 (by decide) ?_
    refine lv_istore_n (lv' := [(2, .int z97), (0, .ref h0), (1, .int what)]) hx hb dX7_tell_15 rfl hl (by decide) rfl (fun ls hl => ?_)
    refine lv_iload_n hx hb dX7_tell_16 rfl (lv_at hl 0 rfl) ?_
    refine hq_if_ne (tgt := 29) hx hb dX7_tell_17 (by decide) (fun c98 => ?_) (fun c98 => ?_)
    · refine lv_iload_n hx hb dX7_tell_29 rfl (lv_at hl 0 rfl) ?_
      refine hq_if_eq (tgt := 53) hx hb dX7_tell_30 (by decide) (fun c99 => ?_) (fun c99 => ?_)
      · exfalso; omega
      · refine lv_aload_n hx hb dX7_tell_33 rfl (lv_at hl 1 rfl) ?_
        refine hp_geti (C := RX7) (T := TX7) (N := 24) (ci := 7) (kd := 11) hx hb hts iX7_tell_X7 hown hK hJ k0 rfl rfl 1 (by decide) (hts (.fieldLink RX7 70 "NeighborBookModel" "typedSize" "I") (List.mem_of_getElem? (i := 1) rfl)) (fun _ h9 => h9) rfl rfl dX7_tell_34 (fun x100 ex100 => ?_)
        have ex100 : x100.toInt = g 11 1 := ex100
        refine hq_iconst hx hb dX7_tell_37 (by decide) (by decide) (fun z101 ez101 => ?_)
        refine hq_icmp_lt (tgt := 62) hx hb dX7_tell_38 (by decide) (fun c102 => ?_) (fun c102 => ?_)
        · refine hq_iconst hx hb dX7_tell_62 (by decide) (by decide) (fun z103 ez103 => ?_)
          exact hp_iret hx hb hK hN hW hlocks hJ hr ⟨hg_P.rf, hG, by omega⟩ dX7_tell_63
        · refine lv_aload_n hx hb dX7_tell_41 rfl (lv_at hl 1 rfl) ?_
          refine hp_geti (C := RX7) (T := TX7) (N := 24) (ci := 7) (kd := 11) hx hb hts iX7_tell_X7 hown hK hJ k0 rfl rfl 1 (by decide) (hts (.fieldLink RX7 70 "NeighborBookModel" "typedSize" "I") (List.mem_of_getElem? (i := 1) rfl)) (fun _ h9 => h9) rfl rfl dX7_tell_42 (fun x104 ex104 => ?_)
          have ex104 : x104.toInt = g 11 1 := ex104
          refine hq_bipush hx hb dX7_tell_45 (by decide) (fun z105 ez105 => ?_)
          refine hq_icmp_le (tgt := 64) hx hb dX7_tell_47 (by decide) (fun c106 => ?_) (fun c106 => ?_)
          · exact ct1  _ _ ls (by omega) hJ (lv_sub hl [1, 2] rfl)
          · refine lv_goto (tgt := 62) hx hb dX7_tell_50 (by decide) ?_
            refine hq_iconst hx hb dX7_tell_62 (by decide) (by decide) (fun z107 ez107 => ?_)
            exact hp_iret hx hb hK hN hW hlocks hJ hr ⟨hg_P.rf, hG, by omega⟩ dX7_tell_63
    · exfalso; omega
  · refine lv_iload_n hx hb dX7_tell_5 rfl (lv_at hl 1 rfl) ?_
    refine hq_iconst hx hb dX7_tell_6 (by decide) (by decide) (fun z108 ez108 => ?_)
    refine hq_icmp_ne (tgt := 14) hx hb dX7_tell_7 (by decide) (fun c109 => ?_) (fun c109 => ?_)
    · refine hq_iconst hx hb dX7_tell_14 (by decide) (by decide) (fun z110 ez110 => ?_)
      refine lv_istore_n (lv' := [(2, .int z110), (0, .ref h0), (1, .int what)]) hx hb dX7_tell_15 rfl hl (by decide) rfl (fun ls hl => ?_)
      refine lv_iload_n hx hb dX7_tell_16 rfl (lv_at hl 0 rfl) ?_
      refine hq_if_ne (tgt := 29) hx hb dX7_tell_17 (by decide) (fun c111 => ?_) (fun c111 => ?_)
      · exfalso; omega
      · refine lv_iload_n hx hb dX7_tell_20 rfl (lv_at hl 2 rfl) ?_
        refine hp_calli (va_runS (As := [.int what]) (rest := []) ⟨hx, hb, hml, hown, hts⟩ (c_X7_isMore l dC dI dA κ B g what) (va_cwS 1 hts gX7_tell_X7_isMore rfl rfl rfl (by decide +kernel) ⟨Nat.le_of_ble_eq_true rfl, Nat.le_of_ble_eq_true rfl⟩) (hp_preS [.int what] hK hN hW hJ) rfl rfl hl.1 rfl (lv_room (Nat.le_of_ble_eq_true rfl)) dX7_tell_21 ⟨Nat.zero_le _, Nat.zero_le _⟩) hJ (fun x113 g112 H locs hp hJ => ?_)
        obtain ⟨rfl, f114⟩ := hp
        refine hq_if_ne (tgt := 29) hx hb dX7_tell_24 (by decide) (fun c115 => ?_) (fun c115 => ?_)
        · refine lv_iload_n hx hb dX7_tell_29 rfl (lv_at hl 0 rfl) ?_
          refine hq_if_eq (tgt := 53) hx hb dX7_tell_30 (by decide) (fun c116 => ?_) (fun c116 => ?_)
          · refine lv_aload_n hx hb dX7_tell_53 rfl (lv_at hl 1 rfl) ?_
            refine hp_geti (C := RX7) (T := TX7) (N := 24) (ci := 7) (kd := 11) hx hb hts iX7_tell_X7 hown hK hJ k0 rfl rfl 1 (by decide) (hts (.fieldLink RX7 70 "NeighborBookModel" "typedSize" "I") (List.mem_of_getElem? (i := 1) rfl)) (fun _ h9 => h9) rfl rfl dX7_tell_54 (fun x117 ex117 => ?_)
            have ex117 : x117.toInt = g 11 1 := ex117
            refine hq_bipush hx hb dX7_tell_57 (by decide) (fun z118 ez118 => ?_)
            refine hq_icmp_le (tgt := 64) hx hb dX7_tell_59 (by decide) (fun c119 => ?_) (fun c119 => ?_)
            · exact ct1  _ _ ls (by omega) hJ (lv_sub hl [1, 2] rfl)
            · refine hq_iconst hx hb dX7_tell_62 (by decide) (by decide) (fun z120 ez120 => ?_)
              exact hp_iret hx hb hK hN hW hlocks hJ hr ⟨hg_P.rf, hG, by omega⟩ dX7_tell_63
          · exfalso; omega
        · refine hq_iconst hx hb dX7_tell_27 (by decide) (by decide) (fun z121 ez121 => ?_)
          exact hp_iret hx hb hK hN hW hlocks hJ hr ⟨hg_P.rf, hG, by omega⟩ dX7_tell_28
    · refine hq_iconst hx hb dX7_tell_10 (by decide) (by decide) (fun z122 ez122 => ?_)
      refine lv_goto (tgt := 15) hx hb dX7_tell_11 (by decide) ?_
      refine lv_istore_n (lv' := [(2, .int z122), (0, .ref h0), (1, .int what)]) hx hb dX7_tell_15 rfl hl (by decide) rfl (fun ls hl => ?_)
      refine lv_iload_n hx hb dX7_tell_16 rfl (lv_at hl 0 rfl) ?_
      refine hq_if_ne (tgt := 29) hx hb dX7_tell_17 (by decide) (fun c123 => ?_) (fun c123 => ?_)
      · refine lv_iload_n hx hb dX7_tell_29 rfl (lv_at hl 0 rfl) ?_
        refine hq_if_eq (tgt := 53) hx hb dX7_tell_30 (by decide) (fun c124 => ?_) (fun c124 => ?_)
        · exfalso; omega
        · refine lv_aload_n hx hb dX7_tell_33 rfl (lv_at hl 1 rfl) ?_
          refine hp_geti (C := RX7) (T := TX7) (N := 24) (ci := 7) (kd := 11) hx hb hts iX7_tell_X7 hown hK hJ k0 rfl rfl 1 (by decide) (hts (.fieldLink RX7 70 "NeighborBookModel" "typedSize" "I") (List.mem_of_getElem? (i := 1) rfl)) (fun _ h9 => h9) rfl rfl dX7_tell_34 (fun x125 ex125 => ?_)
          have ex125 : x125.toInt = g 11 1 := ex125
          refine hq_iconst hx hb dX7_tell_37 (by decide) (by decide) (fun z126 ez126 => ?_)
          refine hq_icmp_lt (tgt := 62) hx hb dX7_tell_38 (by decide) (fun c127 => ?_) (fun c127 => ?_)
          · refine hq_iconst hx hb dX7_tell_62 (by decide) (by decide) (fun z128 ez128 => ?_)
            exact hp_iret hx hb hK hN hW hlocks hJ hr ⟨hg_P.rf, hG, by omega⟩ dX7_tell_63
          · refine lv_aload_n hx hb dX7_tell_41 rfl (lv_at hl 1 rfl) ?_
            refine hp_geti (C := RX7) (T := TX7) (N := 24) (ci := 7) (kd := 11) hx hb hts iX7_tell_X7 hown hK hJ k0 rfl rfl 1 (by decide) (hts (.fieldLink RX7 70 "NeighborBookModel" "typedSize" "I") (List.mem_of_getElem? (i := 1) rfl)) (fun _ h9 => h9) rfl rfl dX7_tell_42 (fun x129 ex129 => ?_)
            have ex129 : x129.toInt = g 11 1 := ex129
            refine hq_bipush hx hb dX7_tell_45 (by decide) (fun z130 ez130 => ?_)
            refine hq_icmp_le (tgt := 64) hx hb dX7_tell_47 (by decide) (fun c131 => ?_) (fun c131 => ?_)
            · exact ct1  _ _ ls (by omega) hJ (lv_sub hl [1, 2] rfl)
            · refine lv_goto (tgt := 62) hx hb dX7_tell_50 (by decide) ?_
              refine hq_iconst hx hb dX7_tell_62 (by decide) (by decide) (fun z132 ez132 => ?_)
              exact hp_iret hx hb hK hN hW hlocks hJ hr ⟨hg_P.rf, hG, by omega⟩ dX7_tell_63
      · exfalso; omega
theorem iX7_set_X7 : ∀ w ∈ wsX70, w ∈ wsX7_set := fun _ h => List.mem_cons_of_mem _ (List.mem_append_right _ h)
set_option maxRecDepth 100000 in
set_option maxHeartbeats 4000000 in
theorem c_X7_set (l : Launch) (dC : Nat → ClassId) (dI : Nat → Nat → Nat) (dA : Nat → ClassId) (κ : Nat → Nat) (B : Nat) (g : Nat → Nat → Int) (h0 : Nat) (k0 : κ h0 = 11) (what : Int32) (v : Int32) : Met l yX7_set wsX7_set ({ frames := 0, cells := 0, slots := 0, locals := 0 } : Room) (hp_Pre dC dI dA κ B g [Value.ref h0, Value.int what, Value.int v]) (hp_Qi dC dI dA κ B (fun r u => g = u ∧ ((((what.toInt = 0 ∧ 1 ≤ v.toInt ∧ v.toInt ≤ 3600) ∨ (what.toInt = 1 ∧ 2 ≤ v.toInt ∧ v.toInt ≤ 10) ∨ (what.toInt = 2 ∧ 1 ≤ v.toInt ∧ v.toInt ≤ 8)) ∧ r.toInt = 1) ∨ (¬ ((what.toInt = 0 ∧ 1 ≤ v.toInt ∧ v.toInt ≤ 3600) ∨ (what.toInt = 1 ∧ 2 ≤ v.toInt ∧ v.toInt ≤ 10) ∨ (what.toInt = 2 ∧ 1 ≤ v.toInt ∧ v.toInt ≤ 8)) ∧ r.toInt = 0)))) 0 0 (hp_A B) := by
  refine Met.ofW (cc := cX7_set) (maxL := 5) (ret := (some .int)) (by decide) rfl ?_
  intro p e s m args below meth c s₁ Bd hml hv
  obtain ⟨rfl, hK, hN, hW, hF⟩ := hv
  have hx := Bd.exec
  have hb := Bd.bytes
  have hr := Bd.returns
  have hts := atoms_spec (ws := wsX7_set) Bd.pre
  have hown : s.vm.findClass RX7 = some m.cls := findClass_of_methodNamed Bd.named
  have hlocks := Bd.notSynchronized
  have hJ : hp_J dC dI dA κ B g s.heap s.heap [] := ⟨hF, va_S.rf⟩
  have hl := lv_entry ([Value.ref h0, Value.int what, Value.int v]) (n := 5) (Nat.le_of_ble_eq_true rfl)
  rw [lg_entry_eq]
  generalize (lg_sl ([Value.ref h0, Value.int what, Value.int v]) ++ List.replicate (5 - (lg_sl ([Value.ref h0, Value.int what, Value.int v])).length) Slot.unset).toArray = ls at hl ⊢
  have hl : lv_has ls 5 [(0, .ref h0), (1, .int what), (2, .int v)] := hl
  refine lv_iload_n hx hb dX7_set_0 rfl (lv_at hl 1 rfl) ?_
  refine hq_iconst hx hb dX7_set_1 (by decide) (by decide) (fun z1 ez1 => ?_)
  refine hq_icmp_ne (tgt := 9) hx hb dX7_set_2 (by decide) (fun c2 => ?_) (fun c2 => ?_)
  · refine hq_iconst hx hb dX7_set_9 (by decide) (by decide) (fun z3 ez3 => ?_)
    refine lv_istore_n (lv' := [(3, .int z3), (0, .ref h0), (1, .int what), (2, .int v)]) hx hb dX7_set_10 rfl hl (by decide) rfl (fun ls hl => ?_)
    refine lv_iload_n hx hb dX7_set_11 rfl (lv_at hl 2 rfl) ?_
    refine hq_if_ne (tgt := 21) hx hb dX7_set_12 (by decide) (fun c4 => ?_) (fun c4 => ?_)
    · refine lv_iload_n hx hb dX7_set_21 rfl (lv_at hl 2 rfl) ?_
      refine hq_iconst hx hb dX7_set_22 (by decide) (by decide) (fun z5 ez5 => ?_)
      refine hq_icmp_ne (tgt := 31) hx hb dX7_set_23 (by decide) (fun c6 => ?_) (fun c6 => ?_)
      · refine hq_bipush hx hb dX7_set_31 (by decide) (fun z7 ez7 => ?_)
        refine lv_istore (lv' := [(4, .int z7), (3, .int z3), (0, .ref h0), (1, .int what), (2, .int v)]) hx hb dX7_set_33 hl (by decide) rfl (fun ls hl => ?_)
        refine lv_iload_n hx hb dX7_set_35 rfl (lv_at hl 3 rfl) ?_
        refine hq_if_lt (tgt := 55) hx hb dX7_set_36 (by decide) (fun c8 => ?_) (fun c8 => ?_)
        · refine hq_iconst hx hb dX7_set_55 (by decide) (by decide) (fun z9 ez9 => ?_)
          exact hp_iret hx hb hK hN hW hlocks hJ hr ⟨rfl, by omega⟩ dX7_set_56
        · refine lv_iload_n hx hb dX7_set_39 rfl (lv_at hl 3 rfl) ?_
          refine hq_iconst hx hb dX7_set_40 (by decide) (by decide) (fun z10 ez10 => ?_)
          refine hq_icmp_gt (tgt := 55) hx hb dX7_set_41 (by decide) (fun c11 => ?_) (fun c11 => ?_)
          · refine hq_iconst hx hb dX7_set_55 (by decide) (by decide) (fun z12 ez12 => ?_)
            exact hp_iret hx hb hK hN hW hlocks hJ hr ⟨rfl, by omega⟩ dX7_set_56
          · refine lv_iload_n hx hb dX7_set_44 rfl (lv_at hl 4 rfl) ?_
            refine lv_iload_n hx hb dX7_set_45 rfl (lv_at hl 1 rfl) ?_
            refine hq_icmp_lt (tgt := 55) hx hb dX7_set_46 (by decide) (fun c13 => ?_) (fun c13 => ?_)
            · refine hq_iconst hx hb dX7_set_55 (by decide) (by decide) (fun z14 ez14 => ?_)
              exact hp_iret hx hb hK hN hW hlocks hJ hr ⟨rfl, by omega⟩ dX7_set_56
            · refine lv_iload_n hx hb dX7_set_49 rfl (lv_at hl 4 rfl) ?_
              refine lv_iload hx hb dX7_set_50 (lv_at hl 0 rfl) ?_
              refine hq_icmp_le (tgt := 57) hx hb dX7_set_52 (by decide) (fun c15 => ?_) (fun c15 => ?_)
              · refine lv_iload_n hx hb dX7_set_57 rfl (lv_at hl 3 rfl) ?_
                refine hq_if_ne (tgt := 69) hx hb dX7_set_58 (by decide) (fun c16 => ?_) (fun c16 => ?_)
                · refine lv_iload_n hx hb dX7_set_69 rfl (lv_at hl 3 rfl) ?_
                  refine hq_iconst hx hb dX7_set_70 (by decide) (by decide) (fun z17 ez17 => ?_)
                  refine hq_icmp_ne (tgt := 82) hx hb dX7_set_71 (by decide) (fun c18 => ?_) (fun c18 => ?_)
                  · refine lv_aload_n hx hb dX7_set_82 rfl (lv_at hl 2 rfl) ?_
                    refine lv_iload_n hx hb dX7_set_83 rfl (lv_at hl 4 rfl) ?_
                    refine hp_put (C := RX7) (T := TX7) (N := 24) (ci := 7) (kd := 11) hx hb hts iX7_set_X7 hown hK hJ k0 rfl rfl 6 (by decide) (hts (.fieldLink RX7 27 "NeighborBookModel" "quick" "I") (List.mem_of_getElem? (i := 3) rfl)) (fun _ h9 => h9) tyX7 tyX7_ok nmX7 (v := .int v) rfl rfl (by decide) hW rfl (hs_i_ok rfl trivial) dX7_set_84 (fun H locs hJ => ?_)
                    refine hq_iconst hx hb dX7_set_87 (by decide) (by decide) (fun z19 ez19 => ?_)
                    exact hp_iret hx hb hK hN hW hlocks hJ hr ⟨rfl, by omega⟩ dX7_set_88
                  · exfalso; omega
                · exfalso; omega
              · refine hq_iconst hx hb dX7_set_55 (by decide) (by decide) (fun z20 ez20 => ?_)
                exact hp_iret hx hb hK hN hW hlocks hJ hr ⟨rfl, by omega⟩ dX7_set_56
      · exfalso; omega
    · refine hq_sipush hx hb dX7_set_15 (by decide) (fun z21 ez21 => ?_)
      refine lv_goto (tgt := 33) hx hb dX7_set_18 (by decide) ?_
      refine lv_istore (lv' := [(4, .int z21), (3, .int z3), (0, .ref h0), (1, .int what), (2, .int v)]) hx hb dX7_set_33 hl (by decide) rfl (fun ls hl => ?_)
      refine lv_iload_n hx hb dX7_set_35 rfl (lv_at hl 3 rfl) ?_
      refine hq_if_lt (tgt := 55) hx hb dX7_set_36 (by decide) (fun c22 => ?_) (fun c22 => ?_)
      · exfalso; omega
      · refine lv_iload_n hx hb dX7_set_39 rfl (lv_at hl 3 rfl) ?_
        refine hq_iconst hx hb dX7_set_40 (by decide) (by decide) (fun z23 ez23 => ?_)
        refine hq_icmp_gt (tgt := 55) hx hb dX7_set_41 (by decide) (fun c24 => ?_) (fun c24 => ?_)
        · exfalso; omega
        · refine lv_iload_n hx hb dX7_set_44 rfl (lv_at hl 4 rfl) ?_
          refine lv_iload_n hx hb dX7_set_45 rfl (lv_at hl 1 rfl) ?_
          refine hq_icmp_lt (tgt := 55) hx hb dX7_set_46 (by decide) (fun c25 => ?_) (fun c25 => ?_)
          · refine hq_iconst hx hb dX7_set_55 (by decide) (by decide) (fun z26 ez26 => ?_)
            exact hp_iret hx hb hK hN hW hlocks hJ hr ⟨rfl, by omega⟩ dX7_set_56
          · refine lv_iload_n hx hb dX7_set_49 rfl (lv_at hl 4 rfl) ?_
            refine lv_iload hx hb dX7_set_50 (lv_at hl 0 rfl) ?_
            refine hq_icmp_le (tgt := 57) hx hb dX7_set_52 (by decide) (fun c27 => ?_) (fun c27 => ?_)
            · refine lv_iload_n hx hb dX7_set_57 rfl (lv_at hl 3 rfl) ?_
              refine hq_if_ne (tgt := 69) hx hb dX7_set_58 (by decide) (fun c28 => ?_) (fun c28 => ?_)
              · exfalso; omega
              · refine lv_aload_n hx hb dX7_set_61 rfl (lv_at hl 2 rfl) ?_
                refine lv_iload_n hx hb dX7_set_62 rfl (lv_at hl 4 rfl) ?_
                refine hp_put (C := RX7) (T := TX7) (N := 24) (ci := 7) (kd := 11) hx hb hts iX7_set_X7 hown hK hJ k0 rfl rfl 4 (by decide) (hts (.fieldLink RX7 20 "NeighborBookModel" "interval" "I") (List.mem_of_getElem? (i := 1) rfl)) (fun _ h9 => h9) tyX7 tyX7_ok nmX7 (v := .int v) rfl rfl (by decide) hW rfl (hs_i_ok rfl trivial) dX7_set_63 (fun H locs hJ => ?_)
                refine lv_goto (tgt := 87) hx hb dX7_set_66 (by decide) ?_
                refine hq_iconst hx hb dX7_set_87 (by decide) (by decide) (fun z29 ez29 => ?_)
                exact hp_iret hx hb hK hN hW hlocks hJ hr ⟨rfl, by omega⟩ dX7_set_88
            · refine hq_iconst hx hb dX7_set_55 (by decide) (by decide) (fun z30 ez30 => ?_)
              exact hp_iret hx hb hK hN hW hlocks hJ hr ⟨rfl, by omega⟩ dX7_set_56
  · refine hq_iconst hx hb dX7_set_5 (by decide) (by decide) (fun z31 ez31 => ?_)
    refine lv_goto (tgt := 10) hx hb dX7_set_6 (by decide) ?_
    refine lv_istore_n (lv' := [(3, .int z31), (0, .ref h0), (1, .int what), (2, .int v)]) hx hb dX7_set_10 rfl hl (by decide) rfl (fun ls hl => ?_)
    refine lv_iload_n hx hb dX7_set_11 rfl (lv_at hl 2 rfl) ?_
    refine hq_if_ne (tgt := 21) hx hb dX7_set_12 (by decide) (fun c32 => ?_) (fun c32 => ?_)
    · refine lv_iload_n hx hb dX7_set_21 rfl (lv_at hl 2 rfl) ?_
      refine hq_iconst hx hb dX7_set_22 (by decide) (by decide) (fun z33 ez33 => ?_)
      refine hq_icmp_ne (tgt := 31) hx hb dX7_set_23 (by decide) (fun c34 => ?_) (fun c34 => ?_)
      · exfalso; omega
      · refine hq_bipush hx hb dX7_set_26 (by decide) (fun z35 ez35 => ?_)
        refine lv_goto (tgt := 33) hx hb dX7_set_28 (by decide) ?_
        refine lv_istore (lv' := [(4, .int z35), (3, .int z31), (0, .ref h0), (1, .int what), (2, .int v)]) hx hb dX7_set_33 hl (by decide) rfl (fun ls hl => ?_)
        refine lv_iload_n hx hb dX7_set_35 rfl (lv_at hl 3 rfl) ?_
        refine hq_if_lt (tgt := 55) hx hb dX7_set_36 (by decide) (fun c36 => ?_) (fun c36 => ?_)
        · exfalso; omega
        · refine lv_iload_n hx hb dX7_set_39 rfl (lv_at hl 3 rfl) ?_
          refine hq_iconst hx hb dX7_set_40 (by decide) (by decide) (fun z37 ez37 => ?_)
          refine hq_icmp_gt (tgt := 55) hx hb dX7_set_41 (by decide) (fun c38 => ?_) (fun c38 => ?_)
          · exfalso; omega
          · refine lv_iload_n hx hb dX7_set_44 rfl (lv_at hl 4 rfl) ?_
            refine lv_iload_n hx hb dX7_set_45 rfl (lv_at hl 1 rfl) ?_
            refine hq_icmp_lt (tgt := 55) hx hb dX7_set_46 (by decide) (fun c39 => ?_) (fun c39 => ?_)
            · refine hq_iconst hx hb dX7_set_55 (by decide) (by decide) (fun z40 ez40 => ?_)
              exact hp_iret hx hb hK hN hW hlocks hJ hr ⟨rfl, by omega⟩ dX7_set_56
            · refine lv_iload_n hx hb dX7_set_49 rfl (lv_at hl 4 rfl) ?_
              refine lv_iload hx hb dX7_set_50 (lv_at hl 0 rfl) ?_
              refine hq_icmp_le (tgt := 57) hx hb dX7_set_52 (by decide) (fun c41 => ?_) (fun c41 => ?_)
              · refine lv_iload_n hx hb dX7_set_57 rfl (lv_at hl 3 rfl) ?_
                refine hq_if_ne (tgt := 69) hx hb dX7_set_58 (by decide) (fun c42 => ?_) (fun c42 => ?_)
                · refine lv_iload_n hx hb dX7_set_69 rfl (lv_at hl 3 rfl) ?_
                  refine hq_iconst hx hb dX7_set_70 (by decide) (by decide) (fun z43 ez43 => ?_)
                  refine hq_icmp_ne (tgt := 82) hx hb dX7_set_71 (by decide) (fun c44 => ?_) (fun c44 => ?_)
                  · exfalso; omega
                  · refine lv_aload_n hx hb dX7_set_74 rfl (lv_at hl 2 rfl) ?_
                    refine lv_iload_n hx hb dX7_set_75 rfl (lv_at hl 4 rfl) ?_
                    refine hp_put (C := RX7) (T := TX7) (N := 24) (ci := 7) (kd := 11) hx hb hts iX7_set_X7 hown hK hJ k0 rfl rfl 5 (by decide) (hts (.fieldLink RX7 24 "NeighborBookModel" "hold" "I") (List.mem_of_getElem? (i := 2) rfl)) (fun _ h9 => h9) tyX7 tyX7_ok nmX7 (v := .int v) rfl rfl (by decide) hW rfl (hs_i_ok rfl trivial) dX7_set_76 (fun H locs hJ => ?_)
                    refine lv_goto (tgt := 87) hx hb dX7_set_79 (by decide) ?_
                    refine hq_iconst hx hb dX7_set_87 (by decide) (by decide) (fun z45 ez45 => ?_)
                    exact hp_iret hx hb hK hN hW hlocks hJ hr ⟨rfl, by omega⟩ dX7_set_88
                · exfalso; omega
              · refine hq_iconst hx hb dX7_set_55 (by decide) (by decide) (fun z46 ez46 => ?_)
                exact hp_iret hx hb hK hN hW hlocks hJ hr ⟨rfl, by omega⟩ dX7_set_56
    · exfalso; omega
theorem iX7_put_X7 : ∀ w ∈ wsX70, w ∈ wsX7_put := fun _ h => List.mem_cons_of_mem _ (List.mem_append_right _ h)
set_option maxRecDepth 100000 in
set_option maxHeartbeats 4000000 in
theorem c_X7_put (l : Launch) (dC : Nat → ClassId) (dI : Nat → Nat → Nat) (dA : Nat → ClassId) (κ : Nat → Nat) (B : Nat) (g : Nat → Nat → Int) (h0 : Nat) (k0 : κ h0 = 11) (b : Int32) (hG : hg_k g) (hps : g 11 22 ≤ 699) : Met l yX7_put wsX7_put ({ frames := 0, cells := 0, slots := 0, locals := 0 } : Room) (hp_Pre dC dI dA κ B g [Value.ref h0, Value.int b]) (hp_Qv dC dI dA κ B (fun u => hg_P hx_m g u ∧ hg_k u ∧ u 11 13 = g 11 13 ∧ u 11 22 = g 11 22 + 1)) 0 0 (hp_A B) := by
  refine Met.ofW (cc := cX7_put) (maxL := 2) (ret := none) (by decide) rfl ?_
  intro p e s m args below meth c s₁ Bd hml hv
  obtain ⟨rfl, hK, hN, hW, hF⟩ := hv
  have hx := Bd.exec
  have hb := Bd.bytes
  have hr := Bd.returns
  have hts := atoms_spec (ws := wsX7_put) Bd.pre
  have hown : s.vm.findClass RX7 = some m.cls := findClass_of_methodNamed Bd.named
  have hlocks := Bd.notSynchronized
  have hJ : hp_J dC dI dA κ B g s.heap s.heap [] := ⟨hF, va_S.rf⟩
  have hl := lv_entry ([Value.ref h0, Value.int b]) (n := 2) (Nat.le_of_ble_eq_true rfl)
  rw [lg_entry_eq]
  generalize (lg_sl ([Value.ref h0, Value.int b]) ++ List.replicate (2 - (lg_sl ([Value.ref h0, Value.int b])).length) Slot.unset).toArray = ls at hl ⊢
  have hl : lv_has ls 2 [(0, .ref h0), (1, .int b)] := hl
  obtain ⟨hG1, hG2, hG3, hG4, hG5, hG6, hG7, hG8⟩ := id hG
  refine lv_aload_n hx hb dX7_put_0 rfl (lv_at hl 0 rfl) ?_
  refine hp_getr (C := RX7) (T := TX7) (N := 24) (ci := 7) (kd := 11) hx hb hts iX7_put_X7 hown hK hJ k0 rfl rfl 21 (by decide) (hts (.fieldLink RX7 64 "NeighborBookModel" "page" "[B") (List.mem_of_getElem? (i := 1) rfl)) (fun _ h9 => h9) rfl dX7_put_1 (fun b1 kb1 => ?_)
  refine lv_aload_n hx hb dX7_put_4 rfl (lv_at hl 0 rfl) ?_
  refine hp_geti (C := RX7) (T := TX7) (N := 24) (ci := 7) (kd := 11) hx hb hts iX7_put_X7 hown hK hJ k0 rfl rfl 22 (by decide) (hts (.fieldLink RX7 77 "NeighborBookModel" "pageSize" "I") (List.mem_of_getElem? (i := 2) rfl)) (fun _ h9 => h9) rfl rfl dX7_put_5 (fun x2 ex2 => ?_)
  have ex2 : x2.toInt = g 11 22 := ex2
  refine lv_iload_n hx hb dX7_put_8 rfl (lv_at hl 1 rfl) ?_
  refine hq_i2b hx hb dX7_put_9 (fun x3 => ?_)
  refine hp_bast (kd := 12) (n := 700) hx hb hK hJ kb1 rfl (by omega) (by omega) (by decide) hW rfl dX7_put_10 (fun H locs hJ => ?_)
  refine lv_aload_n hx hb dX7_put_11 rfl (lv_at hl 0 rfl) ?_
  refine lv_dup hx hb dX7_put_12 rfl ?_
  refine hp_geti (C := RX7) (T := TX7) (N := 24) (ci := 7) (kd := 11) hx hb hts iX7_put_X7 hown hK hJ k0 rfl rfl 22 (by decide) (hts (.fieldLink RX7 77 "NeighborBookModel" "pageSize" "I") (List.mem_of_getElem? (i := 2) rfl)) (fun _ h9 => h9) rfl rfl dX7_put_13 (fun x4 ex4 => ?_)
  have ex4 : x4.toInt = g 11 22 := ex4
  refine hq_iconst hx hb dX7_put_16 (by decide) (by decide) (fun z5 ez5 => ?_)
  refine hq_iadd hx hb dX7_put_17 (by omega) (by omega) (fun x6 ex6 => ?_)
  refine hp_putx (C := RX7) (T := TX7) (N := 24) (ci := 7) (kd := 11) hx hb hts iX7_put_X7 hown hK hJ k0 rfl rfl 22 (by decide) (hts (.fieldLink RX7 77 "NeighborBookModel" "pageSize" "I") (List.mem_of_getElem? (i := 2) rfl)) (fun _ h9 => h9) tyX7 tyX7_ok nmX7 (x := x6) rfl rfl (by decide) hW rfl rfl rfl dX7_put_18 (fun g7 H locs eg7 ng7 hJ => ?_)
  have eg7 : g7 11 22 = x6.toInt := eg7
  have P8 : hg_P hx_m g g7 := hg_P.put hg_P.rf ng7 rfl
  have tt9 : g7 11 1 = g 11 1 := ng7 11 1 (by decide)
  have tt10 : g7 11 13 = g 11 13 := ng7 11 13 (by decide)
  exact hp_vret hx hb hK hN hW hlocks hJ hr ⟨P8, (hg_k.ofm hG P8 (by constructor <;> omega) (by constructor <;> omega) ), by omega⟩ dX7_put_21
theorem iX7_head_X7 : ∀ w ∈ wsX70, w ∈ wsX7_head := fun _ h => List.mem_cons_of_mem _ (List.mem_append_right _ h)
set_option maxRecDepth 100000 in
set_option maxHeartbeats 4000000 in
theorem c_X7_head (l : Launch) (dC : Nat → ClassId) (dI : Nat → Nat → Nat) (dA : Nat → ClassId) (κ : Nat → Nat) (B : Nat) (g : Nat → Nat → Int) (h0 : Nat) (k0 : κ h0 = 11) (type : Int32) (n : Int32) (hG : hg_k g) (hps : g 11 22 ≤ 698) : Met l yX7_head wsX7_head ({ frames := 1, cells := 0, slots := 0, locals := 21 } : Room) (hp_Pre dC dI dA κ B g [Value.ref h0, Value.int type, Value.int n]) (hp_Qv dC dI dA κ B (fun u => hg_P hx_m g u ∧ hg_k u ∧ u 11 13 = g 11 13 ∧ u 11 22 = g 11 22 + 2)) 0 0 (hp_A B) := by
  refine Met.ofW (cc := cX7_head) (maxL := 3) (ret := none) (by decide) rfl ?_
  intro p e s m args below meth c s₁ Bd hml hv
  obtain ⟨rfl, hK, hN, hW, hF⟩ := hv
  have hx := Bd.exec
  have hb := Bd.bytes
  have hr := Bd.returns
  have hts := atoms_spec (ws := wsX7_head) Bd.pre
  have hown : s.vm.findClass RX7 = some m.cls := findClass_of_methodNamed Bd.named
  have hlocks := Bd.notSynchronized
  have hJ : hp_J dC dI dA κ B g s.heap s.heap [] := ⟨hF, va_S.rf⟩
  have hl := lv_entry ([Value.ref h0, Value.int type, Value.int n]) (n := 3) (Nat.le_of_ble_eq_true rfl)
  rw [lg_entry_eq]
  generalize (lg_sl ([Value.ref h0, Value.int type, Value.int n]) ++ List.replicate (3 - (lg_sl ([Value.ref h0, Value.int type, Value.int n])).length) Slot.unset).toArray = ls at hl ⊢
  have hl : lv_has ls 3 [(0, .ref h0), (1, .int type), (2, .int n)] := hl
  obtain ⟨hG1, hG2, hG3, hG4, hG5, hG6, hG7, hG8⟩ := id hG
  refine lv_aload_n hx hb dX7_head_0 rfl (lv_at hl 0 rfl) ?_
  refine lv_iload_n hx hb dX7_head_1 rfl (lv_at hl 1 rfl) ?_
  refine hq_iconst hx hb dX7_head_2 (by decide) (by decide) (fun z1 ez1 => ?_)
  refine hq_ishlU hx hb dX7_head_3 (fun x2 => ?_)
  refine lv_iload_n hx hb dX7_head_4 rfl (lv_at hl 2 rfl) ?_
  refine hq_bipush hx hb dX7_head_5 (by decide) (fun z3 ez3 => ?_)
  refine hq_ishrU hx hb dX7_head_7 (fun x4 => ?_)
  refine hq_iorU hx hb dX7_head_8 (fun x5 => ?_)
  refine hp_callv (va_runV (As := [.int x5]) (rest := []) ⟨hx, hb, hml, hown, hts⟩ (c_X7_put l dC dI dA κ B g h0 k0 x5 hG (by omega)) (cwV 1 hts gX7_head_X7_put rfl rfl rfl (by decide +kernel) ⟨Nat.le_of_ble_eq_true rfl, Nat.le_of_ble_eq_true rfl⟩) (hp_preV (q := (RX7, TX7, 24)) [.int x5] hK hN hW hJ k0 rfl rfl) rfl rfl hl.1 rfl (lv_room (Nat.le_of_ble_eq_true rfl)) dX7_head_9 ⟨Nat.zero_le _, Nat.zero_le _⟩) hJ (fun g6 H locs hp hJ => ?_)
  obtain ⟨P8a, K9, f7⟩ := hp
  obtain ⟨K91, K92, K93, K94, K95, K96, K97, K98⟩ := id K9
  have P8 : hg_P hx_m g g6 := P8a
  have qt10 : g6 1 1 = g 1 1 := P8a 1 1 rfl
  have qt11 : g6 11 1 = g 11 1 := P8a 11 1 rfl
  have qt12 : g6 10 1 = g 10 1 := P8a 10 1 rfl
  have qt13 : g6 4 1 = g 4 1 := P8a 4 1 rfl
  refine lv_aload_n hx hb dX7_head_12 rfl (lv_at hl 0 rfl) ?_
  refine lv_iload_n hx hb dX7_head_13 rfl (lv_at hl 2 rfl) ?_
  refine hp_callv (va_runV (As := [.int n]) (rest := []) ⟨hx, hb, hml, hown, hts⟩ (c_X7_put l dC dI dA κ B g6 h0 k0 n K9 (by omega)) (cwV 1 hts gX7_head_X7_put rfl rfl rfl (by decide +kernel) ⟨Nat.le_of_ble_eq_true rfl, Nat.le_of_ble_eq_true rfl⟩) (hp_preV (q := (RX7, TX7, 24)) [.int n] hK hN hW hJ k0 rfl rfl) rfl rfl hl.1 rfl (lv_room (Nat.le_of_ble_eq_true rfl)) dX7_head_14 ⟨Nat.zero_le _, Nat.zero_le _⟩) hJ (fun g14 H locs hp hJ => ?_)
  obtain ⟨P16a, K17, f15⟩ := hp
  obtain ⟨K171, K172, K173, K174, K175, K176, K177, K178⟩ := id K17
  have P16 : hg_P hx_m g g14 := hg_P.tr P8 P16a
  have qt18 : g14 1 1 = g6 1 1 := P16a 1 1 rfl
  have qt19 : g14 11 1 = g6 11 1 := P16a 11 1 rfl
  have qt20 : g14 10 1 = g6 10 1 := P16a 10 1 rfl
  have qt21 : g14 4 1 = g6 4 1 := P16a 4 1 rfl
  exact hp_vret hx hb hK hN hW hlocks hJ hr ⟨P16, K17, by omega⟩ dX7_head_17
theorem iX7_send_X7 : ∀ w ∈ wsX70, w ∈ wsX7_send := fun _ h => List.mem_cons_of_mem _ (List.mem_append_right _ h)
set_option maxRecDepth 100000 in
set_option maxHeartbeats 4000000 in
theorem c_X7_send (l : Launch) (dC : Nat → ClassId) (dI : Nat → Nat → Nat) (dA : Nat → ClassId) (κ : Nat → Nat) (B : Nat) (g : Nat → Nat → Int) (h0 : Nat) (k0 : κ h0 = 11) (p1 : Int32) (holds : Int32) (hG : hg_k g) (hp0 : 0 ≤ p1.toInt) (hp3 : p1.toInt < 4) : Met l yX7_send wsX7_send ({ frames := 2, cells := 0, slots := 0, locals := 43 } : Room) (hp_Pre dC dI dA κ B g [Value.ref h0, Value.int p1, Value.int holds]) (hp_Qv dC dI dA κ B (fun u => hg_P hx_m g u ∧ hg_k u ∧ u 11 13 = g 11 13)) 0 0 (hp_A B) := by
  refine Met.ofW (cc := cX7_send) (maxL := 5) (ret := none) (by decide) rfl ?_
  intro p e s m args below meth c s₁ Bd hml hv
  obtain ⟨rfl, hK, hN, hW, hF⟩ := hv
  have hx := Bd.exec
  have hb := Bd.bytes
  have hr := Bd.returns
  have hts := atoms_spec (ws := wsX7_send) Bd.pre
  have hown : s.vm.findClass RX7 = some m.cls := findClass_of_methodNamed Bd.named
  have hlocks := Bd.notSynchronized
  have hJ : hp_J dC dI dA κ B g s.heap s.heap [] := ⟨hF, va_S.rf⟩
  have hl := lv_entry ([Value.ref h0, Value.int p1, Value.int holds]) (n := 5) (Nat.le_of_ble_eq_true rfl)
  rw [lg_entry_eq]
  generalize (lg_sl ([Value.ref h0, Value.int p1, Value.int holds]) ++ List.replicate (5 - (lg_sl ([Value.ref h0, Value.int p1, Value.int holds])).length) Slot.unset).toArray = ls at hl ⊢
  have hl : lv_has ls 5 [(0, .ref h0), (1, .int p1), (2, .int holds)] := hl
  obtain ⟨hG1, hG2, hG3, hG4, hG5, hG6, hG7, hG8⟩ := id hG
  refine lv_aload_n hx hb dX7_send_0 rfl (lv_at hl 0 rfl) ?_
  refine hq_iconst hx hb dX7_send_1 (by decide) (by decide) (fun z1 ez1 => ?_)
  refine hp_putx (C := RX7) (T := TX7) (N := 24) (ci := 7) (kd := 11) hx hb hts iX7_send_X7 hown hK hJ k0 rfl rfl 22 (by decide) (hts (.fieldLink RX7 77 "NeighborBookModel" "pageSize" "I") (List.mem_of_getElem? (i := 1) rfl)) (fun _ h9 => h9) tyX7 tyX7_ok nmX7 (x := z1) rfl rfl (by decide) hW rfl rfl rfl dX7_send_2 (fun g2 H locs eg2 ng2 hJ => ?_)
  have eg2 : g2 11 22 = z1.toInt := eg2
  have P3 : hg_P hx_m g g2 := hg_P.put hg_P.rf ng2 rfl
  have tt4 : g2 11 1 = g 11 1 := ng2 11 1 (by decide)
  have tt5 : g2 11 13 = g 11 13 := ng2 11 13 (by decide)
  refine lv_aload_n hx hb dX7_send_5 rfl (lv_at hl 0 rfl) ?_
  refine lv_iload_n hx hb dX7_send_6 rfl (lv_at hl 1 rfl) ?_
  refine hp_putx (C := RX7) (T := TX7) (N := 24) (ci := 7) (kd := 11) hx hb hts iX7_send_X7 hown hK hJ k0 rfl rfl 23 (by decide) (hts (.fieldLink RX7 67 "NeighborBookModel" "pagePort" "I") (List.mem_of_getElem? (i := 2) rfl)) (fun _ h9 => h9) tyX7 tyX7_ok nmX7 (x := p1) rfl rfl (by decide) hW rfl rfl rfl dX7_send_7 (fun g6 H locs eg6 ng6 hJ => ?_)
  have eg6 : g6 11 23 = p1.toInt := eg6
  have P7 : hg_P hx_m g g6 := hg_P.put P3 ng6 rfl
  have tt8 : g6 11 1 = g2 11 1 := ng6 11 1 (by decide)
  have tt9 : g6 11 13 = g2 11 13 := ng6 11 13 (by decide)
  have tt10 : g6 11 22 = g2 11 22 := ng6 11 22 (by decide)
  refine hq_iconst hx hb dX7_send_10 (by decide) (by decide) (fun z11 ez11 => ?_)
  refine lv_istore_n (lv' := [(3, .int z11), (0, .ref h0), (1, .int p1), (2, .int holds)]) hx hb dX7_send_11 rfl hl (by decide) rfl (fun ls hl => ?_)
  have lp14 : ∀ (nlp14 : Nat) (v12 : Int32) (g13 : Nat → Nat → Int) (H : Heap) (locs : List Loc) (ls : Array Slot), (hg_P hx_m g g13) → (hg_k g13) → (1 ≤ v12.toInt) → (v12.toInt ≤ 9) → (g13 11 22 ≤ 70 * (v12.toInt - 1)) → (g13 11 13 = g 11 13) → (10 - v12.toInt < (nlp14 : Int)) → hp_J dC dI dA κ B g13 s.heap H locs → lv_has ls 5 [(0, .ref h0), (1, .int p1), (2, .int holds), (3, .int v12)] → W p l e (headSpec wsX7_send ({ frames := 2, cells := 0, slots := 0, locals := 43 } : Room)).room s m ([Value.ref h0, Value.int p1, Value.int holds] : List Value).toArray below meth c H locs 0 0 (MQ below (hp_Qv dC dI dA κ B (fun u => hg_P hx_m g u ∧ hg_k u ∧ u 11 13 = g 11 13)) ([Value.ref h0, Value.int p1, Value.int holds] : List Value).toArray s 0 0 (hp_A B)) (F0 m 12 ls []) := by
    intro nlp14
    induction nlp14 with
    | zero => intro v12 g13 H locs ls iv16 iv17 iv18 iv19 iv20 iv21 hm15 hJ hl; exact absurd hm15 (by omega)
    | succ nlp14 ihlp14 =>
      intro v12 g13 H locs ls iv16 iv17 iv18 iv19 iv20 iv21 hm15 hJ hl
      obtain ⟨hG1, hG2, hG3, hG4, hG5, hG6, hG7, hG8⟩ := id iv17
      refine lv_iload_n hx hb dX7_send_12 rfl (lv_at hl 3 rfl) ?_
      refine hq_bipush hx hb dX7_send_13 (by decide) (fun z22 ez22 => ?_)
      refine hq_icmp_ge (tgt := 134) hx hb dX7_send_15 (by decide) (fun c23 => ?_) (fun c23 => ?_)
      · refine lv_aload_n hx hb dX7_send_134 rfl (lv_at hl 0 rfl) ?_
        refine hq_iconst hx hb dX7_send_135 (by decide) (by decide) (fun z24 ez24 => ?_)
        refine hq_iconst hx hb dX7_send_136 (by decide) (by decide) (fun z25 ez25 => ?_)
        refine hp_callv (va_runV (As := [.int z24, .int z25]) (rest := []) ⟨hx, hb, hml, hown, hts⟩ (c_X7_head l dC dI dA κ B g13 h0 k0 z24 z25 iv17 (by omega)) (cwV 2 hts gX7_send_X7_head rfl rfl rfl (by decide +kernel) ⟨Nat.le_of_ble_eq_true rfl, Nat.le_of_ble_eq_true rfl⟩) (hp_preV (q := (RX7, TX7, 24)) [.int z24, .int z25] hK hN hW hJ k0 rfl rfl) rfl rfl hl.1 rfl (lv_room (Nat.le_of_ble_eq_true rfl)) dX7_send_137 ⟨Nat.zero_le _, Nat.zero_le _⟩) hJ (fun g26 H locs hp hJ => ?_)
        obtain ⟨P28a, K29, f27⟩ := hp
        obtain ⟨K291, K292, K293, K294, K295, K296, K297, K298⟩ := id K29
        have P28 : hg_P hx_m g g26 := hg_P.tr iv16 P28a
        have qt30 : g26 1 1 = g13 1 1 := P28a 1 1 rfl
        have qt31 : g26 11 1 = g13 11 1 := P28a 11 1 rfl
        have qt32 : g26 10 1 = g13 10 1 := P28a 10 1 rfl
        have qt33 : g26 4 1 = g13 4 1 := P28a 4 1 rfl
        refine lv_aload_n hx hb dX7_send_140 rfl (lv_at hl 0 rfl) ?_
        refine hp_getr (C := RX7) (T := TX7) (N := 24) (ci := 7) (kd := 11) hx hb hts iX7_send_X7 hown hK hJ k0 rfl rfl 8 (by decide) (hts (.fieldLink RX7 34 "NeighborBookModel" "sentFrames" "[I") (List.mem_of_getElem? (i := 5) rfl)) (fun _ h9 => h9) rfl dX7_send_141 (fun b34 kb34 => ?_)
        refine lv_iload_n hx hb dX7_send_144 rfl (lv_at hl 1 rfl) ?_
        refine lv_dup2_11 hx hb dX7_send_145 rfl rfl ?_
        refine hp_iald (kd := 21) (n := 4) hx hb hK hJ kb34 rfl (by omega) (by omega) (sp := (0, 0)) rfl rfl dX7_send_146 (fun x35 ex35 => ?_)
        have ex35 : x35.toInt = g26 21 p1.toInt.toNat := ex35
        refine hq_iconst hx hb dX7_send_147 (by decide) (by decide) (fun z36 ez36 => ?_)
        refine hq_iaddU hx hb dX7_send_148 (fun x37 => ?_)
        refine hp_iastx (kd := 21) (n := 4) hx hb hK hJ kb34 rfl (by omega) (by omega) (by decide) hW rfl rfl dX7_send_149 (fun g38 H locs eg38 ng38 hJ => ?_)
        have P39 : hg_P hx_m g g38 := hg_P.put P28 ng38 rfl
        have tt40 : g38 11 1 = g26 11 1 := ng38 11 1 (by omega)
        have tt41 : g38 11 13 = g26 11 13 := ng38 11 13 (by omega)
        have tt42 : g38 11 22 = g26 11 22 := ng38 11 22 (by omega)
        exact hp_vret hx hb hK hN hW hlocks hJ hr ⟨P39, (hg_k.ofm hG P39 (by constructor <;> omega) (by constructor <;> omega) ), by omega⟩ dX7_send_150
      · refine lv_iload_n hx hb dX7_send_18 rfl (lv_at hl 3 rfl) ?_
        refine hq_iconst hx hb dX7_send_19 (by decide) (by decide) (fun z43 ez43 => ?_)
        refine hq_icmp_ne (tgt := 42) hx hb dX7_send_20 (by decide) (fun c44 => ?_) (fun c44 => ?_)
        · refine lv_iload_n hx hb dX7_send_42 rfl (lv_at hl 3 rfl) ?_
          refine hq_iconst hx hb dX7_send_43 (by decide) (by decide) (fun z45 ez45 => ?_)
          refine hq_icmp_eq (tgt := 128) hx hb dX7_send_44 (by decide) (fun c46 => ?_) (fun c46 => ?_)
          · exfalso; omega
          · refine lv_aload_n hx hb dX7_send_47 rfl (lv_at hl 0 rfl) ?_
            refine hp_getr (C := RX7) (T := TX7) (N := 24) (ci := 7) (kd := 11) hx hb hts iX7_send_X7 hown hK hJ k0 rfl rfl 3 (by decide) (hts (.fieldLink RX7 16 "NeighborBookModel" "ownSizes" "[I") (List.mem_of_getElem? (i := 3) rfl)) (fun _ h9 => h9) rfl dX7_send_48 (fun b47 kb47 => ?_)
            refine lv_iload_n hx hb dX7_send_51 rfl (lv_at hl 3 rfl) ?_
            refine hp_iald (kd := 19) (n := 9) hx hb hK hJ kb47 rfl (by omega) (by omega) (sp := (3, 60)) rfl rfl dX7_send_52 (fun x48 ex48 => ?_)
            have ex48 : -1 ≤ x48.toInt ∧ x48.toInt ≤ 60 := ex48
            refine hq_iconst hx hb dX7_send_53 (by decide) (by decide) (fun z49 ez49 => ?_)
            refine hq_icmp_ne (tgt := 60) hx hb dX7_send_54 (by decide) (fun c50 => ?_) (fun c50 => ?_)
            · refine lv_aload_n hx hb dX7_send_60 rfl (lv_at hl 0 rfl) ?_
              refine lv_iload_n hx hb dX7_send_61 rfl (lv_at hl 3 rfl) ?_
              refine lv_aload_n hx hb dX7_send_62 rfl (lv_at hl 0 rfl) ?_
              refine hp_getr (C := RX7) (T := TX7) (N := 24) (ci := 7) (kd := 11) hx hb hts iX7_send_X7 hown hK hJ k0 rfl rfl 3 (by decide) (hts (.fieldLink RX7 16 "NeighborBookModel" "ownSizes" "[I") (List.mem_of_getElem? (i := 3) rfl)) (fun _ h9 => h9) rfl dX7_send_63 (fun b51 kb51 => ?_)
              refine lv_iload_n hx hb dX7_send_66 rfl (lv_at hl 3 rfl) ?_
              refine hp_iald (kd := 19) (n := 9) hx hb hK hJ kb51 rfl (by omega) (by omega) (sp := (3, 60)) rfl rfl dX7_send_67 (fun x52 ex52 => ?_)
              have ex52 : -1 ≤ x52.toInt ∧ x52.toInt ≤ 60 := ex52
              refine lv_iload_n hx hb dX7_send_68 rfl (lv_at hl 3 rfl) ?_
              refine hq_iconst hx hb dX7_send_69 (by decide) (by decide) (fun z53 ez53 => ?_)
              refine hq_icmp_ne (tgt := 77) hx hb dX7_send_70 (by decide) (fun c54 => ?_) (fun c54 => ?_)
              · refine hq_iconst hx hb dX7_send_77 (by decide) (by decide) (fun z55 ez55 => ?_)
                refine hq_iadd hx hb dX7_send_78 (by omega) (by omega) (fun x56 ex56 => ?_)
                refine hp_callv (va_runV (As := [.int v12, .int x56]) (rest := []) ⟨hx, hb, hml, hown, hts⟩ (c_X7_head l dC dI dA κ B g13 h0 k0 v12 x56 iv17 (by omega)) (cwV 2 hts gX7_send_X7_head rfl rfl rfl (by decide +kernel) ⟨Nat.le_of_ble_eq_true rfl, Nat.le_of_ble_eq_true rfl⟩) (hp_preV (q := (RX7, TX7, 24)) [.int v12, .int x56] hK hN hW hJ k0 rfl rfl) rfl rfl hl.1 rfl (lv_room (Nat.le_of_ble_eq_true rfl)) dX7_send_79 ⟨Nat.zero_le _, Nat.zero_le _⟩) hJ (fun g57 H locs hp hJ => ?_)
                obtain ⟨P59a, K60, f58⟩ := hp
                obtain ⟨K601, K602, K603, K604, K605, K606, K607, K608⟩ := id K60
                have P59 : hg_P hx_m g g57 := hg_P.tr iv16 P59a
                have qt61 : g57 1 1 = g13 1 1 := P59a 1 1 rfl
                have qt62 : g57 11 1 = g13 11 1 := P59a 11 1 rfl
                have qt63 : g57 10 1 = g13 10 1 := P59a 10 1 rfl
                have qt64 : g57 4 1 = g13 4 1 := P59a 4 1 rfl
                refine hq_iconst hx hb dX7_send_82 (by decide) (by decide) (fun z65 ez65 => ?_)
                refine lv_istore (lv' := [(4, .int z65), (0, .ref h0), (1, .int p1), (2, .int holds), (3, .int v12)]) hx hb dX7_send_83 hl (by decide) rfl (fun ls hl => ?_)
                have lp68 : ∀ (nlp68 : Nat) (v66 : Int32) (g67 : Nat → Nat → Int) (H : Heap) (locs : List Loc) (ls : Array Slot), (hg_P hx_m g g67) → (hg_k g67) → (0 ≤ v66.toInt) → (v66.toInt ≤ 60) → (g67 11 22 ≤ 70 * (v12.toInt - 1) + 2 + v66.toInt) → (g67 11 13 = g 11 13) → (61 - v66.toInt < (nlp68 : Int)) → hp_J dC dI dA κ B g67 s.heap H locs → lv_has ls 5 [(0, .ref h0), (1, .int p1), (2, .int holds), (3, .int v12), (4, .int v66)] → W p l e (headSpec wsX7_send ({ frames := 2, cells := 0, slots := 0, locals := 43 } : Room)).room s m ([Value.ref h0, Value.int p1, Value.int holds] : List Value).toArray below meth c H locs 0 0 (MQ below (hp_Qv dC dI dA κ B (fun u => hg_P hx_m g u ∧ hg_k u ∧ u 11 13 = g 11 13)) ([Value.ref h0, Value.int p1, Value.int holds] : List Value).toArray s 0 0 (hp_A B)) (F0 m 85 ls []) := by
                  intro nlp68
                  induction nlp68 with
                  | zero => intro v66 g67 H locs ls iv70 iv71 iv72 iv73 iv74 iv75 hm69 hJ hl; exact absurd hm69 (by omega)
                  | succ nlp68 ihlp68 =>
                    intro v66 g67 H locs ls iv70 iv71 iv72 iv73 iv74 iv75 hm69 hJ hl
                    obtain ⟨hG1, hG2, hG3, hG4, hG5, hG6, hG7, hG8⟩ := id iv71
                    refine lv_iload hx hb dX7_send_85 (lv_at hl 4 rfl) ?_
                    refine lv_aload_n hx hb dX7_send_87 rfl (lv_at hl 0 rfl) ?_
                    refine hp_getr (C := RX7) (T := TX7) (N := 24) (ci := 7) (kd := 11) hx hb hts iX7_send_X7 hown hK hJ k0 rfl rfl 3 (by decide) (hts (.fieldLink RX7 16 "NeighborBookModel" "ownSizes" "[I") (List.mem_of_getElem? (i := 3) rfl)) (fun _ h9 => h9) rfl dX7_send_88 (fun b76 kb76 => ?_)
                    refine lv_iload_n hx hb dX7_send_91 rfl (lv_at hl 3 rfl) ?_
                    refine hp_iald (kd := 19) (n := 9) hx hb hK hJ kb76 rfl (by omega) (by omega) (sp := (3, 60)) rfl rfl dX7_send_92 (fun x77 ex77 => ?_)
                    have ex77 : -1 ≤ x77.toInt ∧ x77.toInt ≤ 60 := ex77
                    refine hq_icmp_ge (tgt := 118) hx hb dX7_send_93 (by decide) (fun c78 => ?_) (fun c78 => ?_)
                    · refine lv_iload_n hx hb dX7_send_118 rfl (lv_at hl 3 rfl) ?_
                      refine hq_iconst hx hb dX7_send_119 (by decide) (by decide) (fun z79 ez79 => ?_)
                      refine hq_icmp_ne (tgt := 128) hx hb dX7_send_120 (by decide) (fun c80 => ?_) (fun c80 => ?_)
                      · refine hq_iinc (k := 3) (lv' := fun (z9 : Int32) => [(3, .int z9), (0, .ref h0), (1, .int p1), (2, .int holds), (4, .int v66)]) hx hb dX7_send_128 hl rfl (by decide) (by decide) (by omega) (by omega) (by decide) (fun _ => rfl) (fun x81 ls ex81 hl => ?_)
                        have hl : lv_has ls 5 [(3, .int x81), (0, .ref h0), (1, .int p1), (2, .int holds), (4, .int v66)] := hl
                        refine lv_goto (tgt := 12) hx hb dX7_send_131 (by decide) ?_
                        exact ihlp14 x81 g67 _ _ ls iv70 iv71 (by omega) (by omega) (by omega) (by omega) (by omega) hJ (lv_sub hl [1, 2, 3, 0] rfl)
                      · exfalso; omega
                    · refine lv_aload_n hx hb dX7_send_96 rfl (lv_at hl 0 rfl) ?_
                      refine lv_aload_n hx hb dX7_send_97 rfl (lv_at hl 0 rfl) ?_
                      refine hp_getr (C := RX7) (T := TX7) (N := 24) (ci := 7) (kd := 11) hx hb hts iX7_send_X7 hown hK hJ k0 rfl rfl 2 (by decide) (hts (.fieldLink RX7 13 "NeighborBookModel" "own" "[B") (List.mem_of_getElem? (i := 4) rfl)) (fun _ h9 => h9) rfl dX7_send_98 (fun b82 kb82 => ?_)
                      refine hq_bipush hx hb dX7_send_101 (by decide) (fun z83 ez83 => ?_)
                      refine lv_iload_n hx hb dX7_send_103 rfl (lv_at hl 3 rfl) ?_
                      refine hq_imul (w := 60 * v12.toInt) hx hb dX7_send_104 (by rw [ez83]) (by omega) (by omega) (fun x84 ex84 => ?_)
                      refine lv_iload hx hb dX7_send_105 (lv_at hl 4 rfl) ?_
                      refine hq_iadd hx hb dX7_send_107 (by omega) (by omega) (fun x85 ex85 => ?_)
                      refine hp_bald (kd := 18) (n := 540) hx hb hK hJ kb82 rfl (by omega) (by omega) (sp := (5, 0)) rfl rfl dX7_send_108 (fun x86 ex86 => ?_)
                      have ex86 : -128 ≤ x86.toInt ∧ x86.toInt ≤ 127 := ex86
                      refine hp_callv (va_runV (As := [.int x86]) (rest := []) ⟨hx, hb, hml, hown, hts⟩ (c_X7_put l dC dI dA κ B g67 h0 k0 x86 iv71 (by omega)) (cwV 1 hts gX7_send_X7_put rfl rfl rfl (by decide +kernel) ⟨Nat.le_of_ble_eq_true rfl, Nat.le_of_ble_eq_true rfl⟩) (hp_preV (q := (RX7, TX7, 24)) [.int x86] hK hN hW hJ k0 rfl rfl) rfl rfl hl.1 rfl (lv_room (Nat.le_of_ble_eq_true rfl)) dX7_send_109 ⟨Nat.zero_le _, Nat.zero_le _⟩) hJ (fun g87 H locs hp hJ => ?_)
                      obtain ⟨P89a, K90, f88⟩ := hp
                      obtain ⟨K901, K902, K903, K904, K905, K906, K907, K908⟩ := id K90
                      have P89 : hg_P hx_m g g87 := hg_P.tr iv70 P89a
                      have qt91 : g87 1 1 = g67 1 1 := P89a 1 1 rfl
                      have qt92 : g87 11 1 = g67 11 1 := P89a 11 1 rfl
                      have qt93 : g87 10 1 = g67 10 1 := P89a 10 1 rfl
                      have qt94 : g87 4 1 = g67 4 1 := P89a 4 1 rfl
                      refine hq_iinc (k := 4) (lv' := fun (z9 : Int32) => [(4, .int z9), (0, .ref h0), (1, .int p1), (2, .int holds), (3, .int v12)]) hx hb dX7_send_112 hl rfl (by decide) (by decide) (by omega) (by omega) (by decide) (fun _ => rfl) (fun x95 ls ex95 hl => ?_)
                      have hl : lv_has ls 5 [(4, .int x95), (0, .ref h0), (1, .int p1), (2, .int holds), (3, .int v12)] := hl
                      refine lv_goto (tgt := 85) hx hb dX7_send_115 (by decide) ?_
                      exact ihlp68 x95 g87 _ _ ls P89 K90 (by omega) (by omega) (by omega) (by omega) (by omega) hJ (lv_sub hl [1, 2, 3, 4, 0] rfl)
                exact lp68 ((61 - z65.toInt).toNat + 1) z65 g57 _ _ ls P59 K60 (by omega) (by omega) (by omega) (by omega) (by omega) hJ (lv_sub hl [1, 2, 3, 4, 0] rfl)
              · refine hq_iconst hx hb dX7_send_73 (by decide) (by decide) (fun z96 ez96 => ?_)
                refine lv_goto (tgt := 78) hx hb dX7_send_74 (by decide) ?_
                refine hq_iadd hx hb dX7_send_78 (by omega) (by omega) (fun x97 ex97 => ?_)
                refine hp_callv (va_runV (As := [.int v12, .int x97]) (rest := []) ⟨hx, hb, hml, hown, hts⟩ (c_X7_head l dC dI dA κ B g13 h0 k0 v12 x97 iv17 (by omega)) (cwV 2 hts gX7_send_X7_head rfl rfl rfl (by decide +kernel) ⟨Nat.le_of_ble_eq_true rfl, Nat.le_of_ble_eq_true rfl⟩) (hp_preV (q := (RX7, TX7, 24)) [.int v12, .int x97] hK hN hW hJ k0 rfl rfl) rfl rfl hl.1 rfl (lv_room (Nat.le_of_ble_eq_true rfl)) dX7_send_79 ⟨Nat.zero_le _, Nat.zero_le _⟩) hJ (fun g98 H locs hp hJ => ?_)
                obtain ⟨P100a, K101, f99⟩ := hp
                obtain ⟨K1011, K1012, K1013, K1014, K1015, K1016, K1017, K1018⟩ := id K101
                have P100 : hg_P hx_m g g98 := hg_P.tr iv16 P100a
                have qt102 : g98 1 1 = g13 1 1 := P100a 1 1 rfl
                have qt103 : g98 11 1 = g13 11 1 := P100a 11 1 rfl
                have qt104 : g98 10 1 = g13 10 1 := P100a 10 1 rfl
                have qt105 : g98 4 1 = g13 4 1 := P100a 4 1 rfl
                refine hq_iconst hx hb dX7_send_82 (by decide) (by decide) (fun z106 ez106 => ?_)
                refine lv_istore (lv' := [(4, .int z106), (0, .ref h0), (1, .int p1), (2, .int holds), (3, .int v12)]) hx hb dX7_send_83 hl (by decide) rfl (fun ls hl => ?_)
                have lp109 : ∀ (nlp109 : Nat) (v107 : Int32) (g108 : Nat → Nat → Int) (H : Heap) (locs : List Loc) (ls : Array Slot), (hg_P hx_m g g108) → (hg_k g108) → (0 ≤ v107.toInt) → (v107.toInt ≤ 60) → (g108 11 22 ≤ 70 * (v12.toInt - 1) + 2 + v107.toInt) → (g108 11 13 = g 11 13) → (61 - v107.toInt < (nlp109 : Int)) → hp_J dC dI dA κ B g108 s.heap H locs → lv_has ls 5 [(0, .ref h0), (1, .int p1), (2, .int holds), (3, .int v12), (4, .int v107)] → W p l e (headSpec wsX7_send ({ frames := 2, cells := 0, slots := 0, locals := 43 } : Room)).room s m ([Value.ref h0, Value.int p1, Value.int holds] : List Value).toArray below meth c H locs 0 0 (MQ below (hp_Qv dC dI dA κ B (fun u => hg_P hx_m g u ∧ hg_k u ∧ u 11 13 = g 11 13)) ([Value.ref h0, Value.int p1, Value.int holds] : List Value).toArray s 0 0 (hp_A B)) (F0 m 85 ls []) := by
                  intro nlp109
                  induction nlp109 with
                  | zero => intro v107 g108 H locs ls iv111 iv112 iv113 iv114 iv115 iv116 hm110 hJ hl; exact absurd hm110 (by omega)
                  | succ nlp109 ihlp109 =>
                    intro v107 g108 H locs ls iv111 iv112 iv113 iv114 iv115 iv116 hm110 hJ hl
                    obtain ⟨hG1, hG2, hG3, hG4, hG5, hG6, hG7, hG8⟩ := id iv112
                    refine lv_iload hx hb dX7_send_85 (lv_at hl 4 rfl) ?_
                    refine lv_aload_n hx hb dX7_send_87 rfl (lv_at hl 0 rfl) ?_
                    refine hp_getr (C := RX7) (T := TX7) (N := 24) (ci := 7) (kd := 11) hx hb hts iX7_send_X7 hown hK hJ k0 rfl rfl 3 (by decide) (hts (.fieldLink RX7 16 "NeighborBookModel" "ownSizes" "[I") (List.mem_of_getElem? (i := 3) rfl)) (fun _ h9 => h9) rfl dX7_send_88 (fun b117 kb117 => ?_)
                    refine lv_iload_n hx hb dX7_send_91 rfl (lv_at hl 3 rfl) ?_
                    refine hp_iald (kd := 19) (n := 9) hx hb hK hJ kb117 rfl (by omega) (by omega) (sp := (3, 60)) rfl rfl dX7_send_92 (fun x118 ex118 => ?_)
                    have ex118 : -1 ≤ x118.toInt ∧ x118.toInt ≤ 60 := ex118
                    refine hq_icmp_ge (tgt := 118) hx hb dX7_send_93 (by decide) (fun c119 => ?_) (fun c119 => ?_)
                    · refine lv_iload_n hx hb dX7_send_118 rfl (lv_at hl 3 rfl) ?_
                      refine hq_iconst hx hb dX7_send_119 (by decide) (by decide) (fun z120 ez120 => ?_)
                      refine hq_icmp_ne (tgt := 128) hx hb dX7_send_120 (by decide) (fun c121 => ?_) (fun c121 => ?_)
                      · exfalso; omega
                      · refine lv_aload_n hx hb dX7_send_123 rfl (lv_at hl 0 rfl) ?_
                        refine lv_iload_n hx hb dX7_send_124 rfl (lv_at hl 1 rfl) ?_
                        refine hp_callv (va_runV (As := [.int p1]) (rest := []) ⟨hx, hb, hml, hown, hts⟩ (c_X7_put l dC dI dA κ B g108 h0 k0 p1 iv112 (by omega)) (cwV 1 hts gX7_send_X7_put rfl rfl rfl (by decide +kernel) ⟨Nat.le_of_ble_eq_true rfl, Nat.le_of_ble_eq_true rfl⟩) (hp_preV (q := (RX7, TX7, 24)) [.int p1] hK hN hW hJ k0 rfl rfl) rfl rfl hl.1 rfl (lv_room (Nat.le_of_ble_eq_true rfl)) dX7_send_125 ⟨Nat.zero_le _, Nat.zero_le _⟩) hJ (fun g122 H locs hp hJ => ?_)
                        obtain ⟨P124a, K125, f123⟩ := hp
                        obtain ⟨K1251, K1252, K1253, K1254, K1255, K1256, K1257, K1258⟩ := id K125
                        have P124 : hg_P hx_m g g122 := hg_P.tr iv111 P124a
                        have qt126 : g122 1 1 = g108 1 1 := P124a 1 1 rfl
                        have qt127 : g122 11 1 = g108 11 1 := P124a 11 1 rfl
                        have qt128 : g122 10 1 = g108 10 1 := P124a 10 1 rfl
                        have qt129 : g122 4 1 = g108 4 1 := P124a 4 1 rfl
                        refine hq_iinc (k := 3) (lv' := fun (z9 : Int32) => [(3, .int z9), (0, .ref h0), (1, .int p1), (2, .int holds), (4, .int v107)]) hx hb dX7_send_128 hl rfl (by decide) (by decide) (by omega) (by omega) (by decide) (fun _ => rfl) (fun x130 ls ex130 hl => ?_)
                        have hl : lv_has ls 5 [(3, .int x130), (0, .ref h0), (1, .int p1), (2, .int holds), (4, .int v107)] := hl
                        refine lv_goto (tgt := 12) hx hb dX7_send_131 (by decide) ?_
                        exact ihlp14 x130 g122 _ _ ls P124 K125 (by omega) (by omega) (by omega) (by omega) (by omega) hJ (lv_sub hl [1, 2, 3, 0] rfl)
                    · refine lv_aload_n hx hb dX7_send_96 rfl (lv_at hl 0 rfl) ?_
                      refine lv_aload_n hx hb dX7_send_97 rfl (lv_at hl 0 rfl) ?_
                      refine hp_getr (C := RX7) (T := TX7) (N := 24) (ci := 7) (kd := 11) hx hb hts iX7_send_X7 hown hK hJ k0 rfl rfl 2 (by decide) (hts (.fieldLink RX7 13 "NeighborBookModel" "own" "[B") (List.mem_of_getElem? (i := 4) rfl)) (fun _ h9 => h9) rfl dX7_send_98 (fun b131 kb131 => ?_)
                      refine hq_bipush hx hb dX7_send_101 (by decide) (fun z132 ez132 => ?_)
                      refine lv_iload_n hx hb dX7_send_103 rfl (lv_at hl 3 rfl) ?_
                      refine hq_imul (w := 60 * v12.toInt) hx hb dX7_send_104 (by rw [ez132]) (by omega) (by omega) (fun x133 ex133 => ?_)
                      refine lv_iload hx hb dX7_send_105 (lv_at hl 4 rfl) ?_
                      refine hq_iadd hx hb dX7_send_107 (by omega) (by omega) (fun x134 ex134 => ?_)
                      refine hp_bald (kd := 18) (n := 540) hx hb hK hJ kb131 rfl (by omega) (by omega) (sp := (5, 0)) rfl rfl dX7_send_108 (fun x135 ex135 => ?_)
                      have ex135 : -128 ≤ x135.toInt ∧ x135.toInt ≤ 127 := ex135
                      refine hp_callv (va_runV (As := [.int x135]) (rest := []) ⟨hx, hb, hml, hown, hts⟩ (c_X7_put l dC dI dA κ B g108 h0 k0 x135 iv112 (by omega)) (cwV 1 hts gX7_send_X7_put rfl rfl rfl (by decide +kernel) ⟨Nat.le_of_ble_eq_true rfl, Nat.le_of_ble_eq_true rfl⟩) (hp_preV (q := (RX7, TX7, 24)) [.int x135] hK hN hW hJ k0 rfl rfl) rfl rfl hl.1 rfl (lv_room (Nat.le_of_ble_eq_true rfl)) dX7_send_109 ⟨Nat.zero_le _, Nat.zero_le _⟩) hJ (fun g136 H locs hp hJ => ?_)
                      obtain ⟨P138a, K139, f137⟩ := hp
                      obtain ⟨K1391, K1392, K1393, K1394, K1395, K1396, K1397, K1398⟩ := id K139
                      have P138 : hg_P hx_m g g136 := hg_P.tr iv111 P138a
                      have qt140 : g136 1 1 = g108 1 1 := P138a 1 1 rfl
                      have qt141 : g136 11 1 = g108 11 1 := P138a 11 1 rfl
                      have qt142 : g136 10 1 = g108 10 1 := P138a 10 1 rfl
                      have qt143 : g136 4 1 = g108 4 1 := P138a 4 1 rfl
                      refine hq_iinc (k := 4) (lv' := fun (z9 : Int32) => [(4, .int z9), (0, .ref h0), (1, .int p1), (2, .int holds), (3, .int v12)]) hx hb dX7_send_112 hl rfl (by decide) (by decide) (by omega) (by omega) (by decide) (fun _ => rfl) (fun x144 ls ex144 hl => ?_)
                      have hl : lv_has ls 5 [(4, .int x144), (0, .ref h0), (1, .int p1), (2, .int holds), (3, .int v12)] := hl
                      refine lv_goto (tgt := 85) hx hb dX7_send_115 (by decide) ?_
                      exact ihlp109 x144 g136 _ _ ls P138 K139 (by omega) (by omega) (by omega) (by omega) (by omega) hJ (lv_sub hl [1, 2, 3, 4, 0] rfl)
                exact lp109 ((61 - z106.toInt).toNat + 1) z106 g98 _ _ ls P100 K101 (by omega) (by omega) (by omega) (by omega) (by omega) hJ (lv_sub hl [1, 2, 3, 4, 0] rfl)
            · refine lv_goto (tgt := 128) hx hb dX7_send_57 (by decide) ?_
              refine hq_iinc (k := 3) (lv' := fun (z9 : Int32) => [(3, .int z9), (0, .ref h0), (1, .int p1), (2, .int holds)]) hx hb dX7_send_128 hl rfl (by decide) (by decide) (by omega) (by omega) (by decide) (fun _ => rfl) (fun x145 ls ex145 hl => ?_)
              have hl : lv_has ls 5 [(3, .int x145), (0, .ref h0), (1, .int p1), (2, .int holds)] := hl
              refine lv_goto (tgt := 12) hx hb dX7_send_131 (by decide) ?_
              exact ihlp14 x145 g13 _ _ ls iv16 iv17 (by omega) (by omega) (by omega) (by omega) (by omega) hJ (lv_sub hl [1, 2, 3, 0] rfl)
        · refine lv_aload_n hx hb dX7_send_23 rfl (lv_at hl 0 rfl) ?_
          refine hq_iconst hx hb dX7_send_24 (by decide) (by decide) (fun z146 ez146 => ?_)
          refine hq_iconst hx hb dX7_send_25 (by decide) (by decide) (fun z147 ez147 => ?_)
          refine hp_callv (va_runV (As := [.int z146, .int z147]) (rest := []) ⟨hx, hb, hml, hown, hts⟩ (c_X7_head l dC dI dA κ B g13 h0 k0 z146 z147 iv17 (by omega)) (cwV 2 hts gX7_send_X7_head rfl rfl rfl (by decide +kernel) ⟨Nat.le_of_ble_eq_true rfl, Nat.le_of_ble_eq_true rfl⟩) (hp_preV (q := (RX7, TX7, 24)) [.int z146, .int z147] hK hN hW hJ k0 rfl rfl) rfl rfl hl.1 rfl (lv_room (Nat.le_of_ble_eq_true rfl)) dX7_send_26 ⟨Nat.zero_le _, Nat.zero_le _⟩) hJ (fun g148 H locs hp hJ => ?_)
          obtain ⟨P150a, K151, f149⟩ := hp
          obtain ⟨K1511, K1512, K1513, K1514, K1515, K1516, K1517, K1518⟩ := id K151
          have P150 : hg_P hx_m g g148 := hg_P.tr iv16 P150a
          have qt152 : g148 1 1 = g13 1 1 := P150a 1 1 rfl
          have qt153 : g148 11 1 = g13 11 1 := P150a 11 1 rfl
          have qt154 : g148 10 1 = g13 10 1 := P150a 10 1 rfl
          have qt155 : g148 4 1 = g13 4 1 := P150a 4 1 rfl
          refine lv_aload_n hx hb dX7_send_29 rfl (lv_at hl 0 rfl) ?_
          refine lv_iload_n hx hb dX7_send_30 rfl (lv_at hl 2 rfl) ?_
          refine hq_bipush hx hb dX7_send_31 (by decide) (fun z156 ez156 => ?_)
          refine hq_ishrU hx hb dX7_send_33 (fun x157 => ?_)
          refine hp_callv (va_runV (As := [.int x157]) (rest := []) ⟨hx, hb, hml, hown, hts⟩ (c_X7_put l dC dI dA κ B g148 h0 k0 x157 K151 (by omega)) (cwV 1 hts gX7_send_X7_put rfl rfl rfl (by decide +kernel) ⟨Nat.le_of_ble_eq_true rfl, Nat.le_of_ble_eq_true rfl⟩) (hp_preV (q := (RX7, TX7, 24)) [.int x157] hK hN hW hJ k0 rfl rfl) rfl rfl hl.1 rfl (lv_room (Nat.le_of_ble_eq_true rfl)) dX7_send_34 ⟨Nat.zero_le _, Nat.zero_le _⟩) hJ (fun g158 H locs hp hJ => ?_)
          obtain ⟨P160a, K161, f159⟩ := hp
          obtain ⟨K1611, K1612, K1613, K1614, K1615, K1616, K1617, K1618⟩ := id K161
          have P160 : hg_P hx_m g g158 := hg_P.tr P150 P160a
          have qt162 : g158 1 1 = g148 1 1 := P160a 1 1 rfl
          have qt163 : g158 11 1 = g148 11 1 := P160a 11 1 rfl
          have qt164 : g158 10 1 = g148 10 1 := P160a 10 1 rfl
          have qt165 : g158 4 1 = g148 4 1 := P160a 4 1 rfl
          refine lv_aload_n hx hb dX7_send_37 rfl (lv_at hl 0 rfl) ?_
          refine lv_iload_n hx hb dX7_send_38 rfl (lv_at hl 2 rfl) ?_
          refine hp_callv (va_runV (As := [.int holds]) (rest := []) ⟨hx, hb, hml, hown, hts⟩ (c_X7_put l dC dI dA κ B g158 h0 k0 holds K161 (by omega)) (cwV 1 hts gX7_send_X7_put rfl rfl rfl (by decide +kernel) ⟨Nat.le_of_ble_eq_true rfl, Nat.le_of_ble_eq_true rfl⟩) (hp_preV (q := (RX7, TX7, 24)) [.int holds] hK hN hW hJ k0 rfl rfl) rfl rfl hl.1 rfl (lv_room (Nat.le_of_ble_eq_true rfl)) dX7_send_39 ⟨Nat.zero_le _, Nat.zero_le _⟩) hJ (fun g166 H locs hp hJ => ?_)
          obtain ⟨P168a, K169, f167⟩ := hp
          obtain ⟨K1691, K1692, K1693, K1694, K1695, K1696, K1697, K1698⟩ := id K169
          have P168 : hg_P hx_m g g166 := hg_P.tr P160 P168a
          have qt170 : g166 1 1 = g158 1 1 := P168a 1 1 rfl
          have qt171 : g166 11 1 = g158 11 1 := P168a 11 1 rfl
          have qt172 : g166 10 1 = g158 10 1 := P168a 10 1 rfl
          have qt173 : g166 4 1 = g158 4 1 := P168a 4 1 rfl
          refine lv_iload_n hx hb dX7_send_42 rfl (lv_at hl 3 rfl) ?_
          refine hq_iconst hx hb dX7_send_43 (by decide) (by decide) (fun z174 ez174 => ?_)
          refine hq_icmp_eq (tgt := 128) hx hb dX7_send_44 (by decide) (fun c175 => ?_) (fun c175 => ?_)
          · refine hq_iinc (k := 3) (lv' := fun (z9 : Int32) => [(3, .int z9), (0, .ref h0), (1, .int p1), (2, .int holds)]) hx hb dX7_send_128 hl rfl (by decide) (by decide) (by omega) (by omega) (by decide) (fun _ => rfl) (fun x176 ls ex176 hl => ?_)
            have hl : lv_has ls 5 [(3, .int x176), (0, .ref h0), (1, .int p1), (2, .int holds)] := hl
            refine lv_goto (tgt := 12) hx hb dX7_send_131 (by decide) ?_
            exact ihlp14 x176 g166 _ _ ls P168 K169 (by omega) (by omega) (by omega) (by omega) (by omega) hJ (lv_sub hl [1, 2, 3, 0] rfl)
          · exfalso; omega
  exact lp14 ((10 - z11.toInt).toNat + 1) z11 g6 _ _ ls P7 (hg_k.ofm hG P7 (by constructor <;> omega) (by constructor <;> omega) ) (by omega) (by omega) (by omega) (by omega) (by omega) hJ (lv_sub hl [1, 2, 3, 0] rfl)
