set_option maxRecDepth 100000 in
set_option maxHeartbeats 4000000 in
theorem c_X6_isMore (l : Launch) (dC : Nat → ClassId) (dI : Nat → Nat → Nat) (dA : Nat → ClassId) (κ : Nat → Nat) (B : Nat) (g : Nat → Nat → Int) (type : Int32) : Met l yX6_isMore wsX6_isMore ({ frames := 0, cells := 0, slots := 0, locals := 0 } : Room) (hp_Pre dC dI dA κ B g [Value.int type]) (hp_Qi dC dI dA κ B (fun r u => g = u ∧ ((r.toInt = 1 ∧ 4 ≤ type.toInt ∧ type.toInt ≤ 8) ∨ (r.toInt = 0 ∧ (type.toInt < 4 ∨ 8 < type.toInt))))) 0 0 (hp_A B) := by
  refine Met.ofW (cc := cX6_isMore) (maxL := 1) (ret := (some .boolean)) (by decide) rfl ?_
  intro p e s m args below meth c s₁ Bd hml hv
  obtain ⟨rfl, hK, hN, hW, hF⟩ := hv
  have hx := Bd.exec
  have hb := Bd.bytes
  have hr := Bd.returns
  have hts := atoms_spec (ws := wsX6_isMore) Bd.pre
  have hown : s.vm.findClass RX6 = some m.cls := findClass_of_methodNamed Bd.named
  have hlocks := Bd.notSynchronized
  have hJ : hp_J dC dI dA κ B g s.heap s.heap [] := ⟨hF, va_S.rf⟩
  have hl := lv_entry ([Value.int type]) (n := 1) (Nat.le_of_ble_eq_true rfl)
  rw [lg_entry_eq]
  generalize (lg_sl ([Value.int type]) ++ List.replicate (1 - (lg_sl ([Value.int type])).length) Slot.unset).toArray = ls at hl ⊢
  have hl : lv_has ls 1 [(0, .int type)] := hl
  refine lv_iload_n hx hb dX6_isMore_0 rfl (lv_at hl 0 rfl) ?_
  refine hq_iconst hx hb dX6_isMore_1 (by decide) (by decide) (fun z1 ez1 => ?_)
  refine hq_icmp_lt (tgt := 15) hx hb dX6_isMore_2 (by decide) (fun c2 => ?_) (fun c2 => ?_)
  · refine hq_iconst hx hb dX6_isMore_15 (by decide) (by decide) (fun z3 ez3 => ?_)
    exact hp_zret hx hb hK hN hW hlocks hJ hr (by omega) ⟨rfl, by omega⟩ dX6_isMore_16
  · refine lv_iload_n hx hb dX6_isMore_5 rfl (lv_at hl 0 rfl) ?_
    refine hq_bipush hx hb dX6_isMore_6 (by decide) (fun z4 ez4 => ?_)
    refine hq_icmp_gt (tgt := 15) hx hb dX6_isMore_8 (by decide) (fun c5 => ?_) (fun c5 => ?_)
    · refine hq_iconst hx hb dX6_isMore_15 (by decide) (by decide) (fun z6 ez6 => ?_)
      exact hp_zret hx hb hK hN hW hlocks hJ hr (by omega) ⟨rfl, by omega⟩ dX6_isMore_16
    · refine hq_iconst hx hb dX6_isMore_11 (by decide) (by decide) (fun z7 ez7 => ?_)
      refine lv_goto (tgt := 16) hx hb dX6_isMore_12 (by decide) ?_
      exact hp_zret hx hb hK hN hW hlocks hJ hr (by omega) ⟨rfl, by omega⟩ dX6_isMore_16
set_option maxRecDepth 100000 in
set_option maxHeartbeats 4000000 in
theorem c_J7_fill_53178 (l : Launch) (dC : Nat → ClassId) (dI : Nat → Nat → Nat) (dA : Nat → ClassId) (κ : Nat → Nat) (B : Nat) (g : Nat → Nat → Int) (q : Nat) (hq : q < 20) (a : Nat) (ka : κ a = 340 + q) (val : Int32) (hv : -1 ≤ val.toInt ∧ val.toInt ≤ 0) : Met l yJ7_fill_53178 wsJ7_fill_53178 ({ frames := 0, cells := 0, slots := 0, locals := 0 } : Room) (hp_Pre dC dI dA κ B g [Value.ref a, Value.int val]) (hp_Qv dC dI dA κ B (fun u => g = u)) 0 0 (hp_A B) := by
  refine Met.ofW (cc := cJ7_fill_53178) (maxL := 4) (ret := none) (by decide) rfl ?_
  intro p e s m args below meth c s₁ Bd hml hv
  obtain ⟨rfl, hK, hN, hW, hF⟩ := hv
  have hx := Bd.exec
  have hb := Bd.bytes
  have hr := Bd.returns
  have hts := atoms_spec (ws := wsJ7_fill_53178) Bd.pre
  have hown : s.vm.findClass RJ7 = some m.cls := findClass_of_methodNamed Bd.named
  have hlocks := Bd.notSynchronized
  have hJ : hp_J dC dI dA κ B g s.heap s.heap [] := ⟨hF, va_S.rf⟩
  have hl := lv_entry ([Value.ref a, Value.int val]) (n := 4) (Nat.le_of_ble_eq_true rfl)
  rw [lg_entry_eq]
  generalize (lg_sl ([Value.ref a, Value.int val]) ++ List.replicate (4 - (lg_sl ([Value.ref a, Value.int val])).length) Slot.unset).toArray = ls at hl ⊢
  have hl : lv_has ls 4 [(0, .ref a), (1, .int val)] := hl
  refine hq_iconst hx hb dJ7_fill_53178_0 (by decide) (by decide) (fun z1 ez1 => ?_)
  refine lv_istore_n (lv' := [(2, .int z1), (0, .ref a), (1, .int val)]) hx hb dJ7_fill_53178_1 rfl hl (by decide) rfl (fun ls hl => ?_)
  refine lv_aload_n hx hb dJ7_fill_53178_2 rfl (lv_at hl 1 rfl) ?_
  refine hp_alen (q := (dA 0, .int)) (ty := 0) (n := 9) hx hb hK hJ ka (hk_t340 (by omega)) rfl rfl (by decide) dJ7_fill_53178_3 (fun x2 ex2 => ?_)
  have ex2 : x2.toInt = 9 := ex2
  refine lv_istore_n (lv' := [(3, .int x2), (2, .int z1), (0, .ref a), (1, .int val)]) hx hb dJ7_fill_53178_4 rfl hl (by decide) rfl (fun ls hl => ?_)
  have lp4 : ∀ (nlp4 : Nat) (v3 : Int32) (H : Heap) (locs : List Loc) (ls : Array Slot), (0 ≤ v3.toInt) → (v3.toInt ≤ 9) → (9 - v3.toInt < (nlp4 : Int)) → hp_J dC dI dA κ B g s.heap H locs → lv_has ls 4 [(0, .ref a), (1, .int val), (2, .int v3), (3, .int x2)] → W p l e (headSpec wsJ7_fill_53178 ({ frames := 0, cells := 0, slots := 0, locals := 0 } : Room)).room s m ([Value.ref a, Value.int val] : List Value).toArray below meth c H locs 0 0 (MQ below (hp_Qv dC dI dA κ B (fun u => g = u)) ([Value.ref a, Value.int val] : List Value).toArray s 0 0 (hp_A B)) (F0 m 5 ls []) := by
    intro nlp4
    induction nlp4 with
    | zero => intro v3 H locs ls iv6 iv7 hm5 hJ hl; exact absurd hm5 (by omega)
    | succ nlp4 ihlp4 =>
      intro v3 H locs ls iv6 iv7 hm5 hJ hl
      refine lv_iload_n hx hb dJ7_fill_53178_5 rfl (lv_at hl 2 rfl) ?_
      refine lv_iload_n hx hb dJ7_fill_53178_6 rfl (lv_at hl 3 rfl) ?_
      refine hq_icmp_ge (tgt := 20) hx hb dJ7_fill_53178_7 (by decide) (fun c8 => ?_) (fun c8 => ?_)
      · exact hp_vret hx hb hK hN hW hlocks hJ hr rfl dJ7_fill_53178_20
      · refine lv_aload_n hx hb dJ7_fill_53178_10 rfl (lv_at hl 0 rfl) ?_
        refine lv_iload_n hx hb dJ7_fill_53178_11 rfl (lv_at hl 2 rfl) ?_
        refine lv_iload_n hx hb dJ7_fill_53178_12 rfl (lv_at hl 1 rfl) ?_
        refine hp_iast (kd := 340 + q) (n := 9) hx hb hK hJ ka (hk_t340 (by omega)) (by omega) (by omega) (by omega) hW (hk_s340 (q := q) (by omega) _) (hs13_n _) (hs13_o (by omega) (by omega)) dJ7_fill_53178_13 (fun H locs hJ => ?_)
        refine hq_iinc (k := 2) (lv' := fun (z9 : Int32) => [(2, .int z9), (0, .ref a), (1, .int val), (3, .int x2)]) hx hb dJ7_fill_53178_14 hl rfl (by decide) (by decide) (by omega) (by omega) (by decide) (fun _ => rfl) (fun x9 ls ex9 hl => ?_)
        have hl : lv_has ls 4 [(2, .int x9), (0, .ref a), (1, .int val), (3, .int x2)] := hl
        refine lv_goto (tgt := 5) hx hb dJ7_fill_53178_17 (by decide) ?_
        exact ihlp4 x9 _ _ ls (by omega) (by omega) (by omega) hJ (lv_sub hl [1, 2, 0, 3] rfl)
  exact lp4 ((9 - z1.toInt).toNat + 1) z1 _ _ ls (by omega) (by omega) (by omega) hJ (lv_sub hl [2, 3, 1, 0] rfl)
set_option maxRecDepth 100000 in
set_option maxHeartbeats 4000000 in
theorem c_X0_isKept (l : Launch) (dC : Nat → ClassId) (dI : Nat → Nat → Nat) (dA : Nat → ClassId) (κ : Nat → Nat) (B : Nat) (g : Nat → Nat → Int) (type : Int32) : Met l yX0_isKept wsX0_isKept ({ frames := 1, cells := 0, slots := 0, locals := 20 } : Room) (hp_Pre dC dI dA κ B g [Value.int type]) (hp_Qi dC dI dA κ B (fun r u => g = u ∧ ((r.toInt = 1 ∧ (type.toInt = 1 ∨ type.toInt = 2 ∨ (4 ≤ type.toInt ∧ type.toInt ≤ 8))) ∨ (r.toInt = 0 ∧ ¬ (type.toInt = 1 ∨ type.toInt = 2 ∨ (4 ≤ type.toInt ∧ type.toInt ≤ 8)))))) 0 0 (hp_A B) := by
  refine Met.ofW (cc := cX0_isKept) (maxL := 1) (ret := (some .boolean)) (by decide) rfl ?_
  intro p e s m args below meth c s₁ Bd hml hv
  obtain ⟨rfl, hK, hN, hW, hF⟩ := hv
  have hx := Bd.exec
  have hb := Bd.bytes
  have hr := Bd.returns
  have hts := atoms_spec (ws := wsX0_isKept) Bd.pre
  have hown : s.vm.findClass RX0 = some m.cls := findClass_of_methodNamed Bd.named
  have hlocks := Bd.notSynchronized
  have hJ : hp_J dC dI dA κ B g s.heap s.heap [] := ⟨hF, va_S.rf⟩
  have hl := lv_entry ([Value.int type]) (n := 1) (Nat.le_of_ble_eq_true rfl)
  rw [lg_entry_eq]
  generalize (lg_sl ([Value.int type]) ++ List.replicate (1 - (lg_sl ([Value.int type])).length) Slot.unset).toArray = ls at hl ⊢
  have hl : lv_has ls 1 [(0, .int type)] := hl
  refine lv_iload_n hx hb dX0_isKept_0 rfl (lv_at hl 0 rfl) ?_
  refine hq_iconst hx hb dX0_isKept_1 (by decide) (by decide) (fun z1 ez1 => ?_)
  refine hq_icmp_eq (tgt := 17) hx hb dX0_isKept_2 (by decide) (fun c2 => ?_) (fun c2 => ?_)
  · refine hq_iconst hx hb dX0_isKept_17 (by decide) (by decide) (fun z3 ez3 => ?_)
    refine lv_goto (tgt := 22) hx hb dX0_isKept_18 (by decide) ?_
    exact hp_zret hx hb hK hN hW hlocks hJ hr (by omega) ⟨rfl, by omega⟩ dX0_isKept_22
  · refine lv_iload_n hx hb dX0_isKept_5 rfl (lv_at hl 0 rfl) ?_
    refine hq_iconst hx hb dX0_isKept_6 (by decide) (by decide) (fun z4 ez4 => ?_)
    refine hq_icmp_eq (tgt := 17) hx hb dX0_isKept_7 (by decide) (fun c5 => ?_) (fun c5 => ?_)
    · refine hq_iconst hx hb dX0_isKept_17 (by decide) (by decide) (fun z6 ez6 => ?_)
      refine lv_goto (tgt := 22) hx hb dX0_isKept_18 (by decide) ?_
      exact hp_zret hx hb hK hN hW hlocks hJ hr (by omega) ⟨rfl, by omega⟩ dX0_isKept_22
    · refine lv_iload_n hx hb dX0_isKept_10 rfl (lv_at hl 0 rfl) ?_
      refine hp_calli (va_runSN (As := [.int type]) (rest := []) ⟨hx, hb, hml, hown, hts⟩ (c_X6_isMore l dC dI dA κ B g type) ⟨va_cnB 1 hts gX0_isKept_X6_isMore_n22 rfl rfl rfl (hN _ (List.mem_of_getElem? (i := 4) rfl)) (hts (.initialized RX6) (List.mem_of_getElem? (i := 2) rfl)) (by decide +kernel) ⟨Nat.le_of_ble_eq_true rfl, Nat.le_of_ble_eq_true rfl⟩, (hts (.static yX6_isMore) (List.mem_of_getElem? (i := 1) rfl)), trivial⟩ (hp_preS [.int type] hK hN hW hJ) rfl rfl hl.1 rfl (lv_room (Nat.le_of_ble_eq_true rfl)) dX0_isKept_11 ⟨Nat.zero_le _, Nat.zero_le _⟩) hJ (fun x8 g7 H locs hp hJ => ?_)
      obtain ⟨rfl, f9⟩ := hp
      refine hq_if_eq (tgt := 21) hx hb dX0_isKept_14 (by decide) (fun c10 => ?_) (fun c10 => ?_)
      · refine hq_iconst hx hb dX0_isKept_21 (by decide) (by decide) (fun z11 ez11 => ?_)
        exact hp_zret hx hb hK hN hW hlocks hJ hr (by omega) ⟨rfl, by omega⟩ dX0_isKept_22
      · refine hq_iconst hx hb dX0_isKept_17 (by decide) (by decide) (fun z12 ez12 => ?_)
        refine lv_goto (tgt := 22) hx hb dX0_isKept_18 (by decide) ?_
        exact hp_zret hx hb hK hN hW hlocks hJ hr (by omega) ⟨rfl, by omega⟩ dX0_isKept_22
set_option maxRecDepth 100000 in
set_option maxHeartbeats 4000000 in
theorem c_X0_startOf (l : Launch) (dC : Nat → ClassId) (dI : Nat → Nat → Nat) (dA : Nat → ClassId) (κ : Nat → Nat) (B : Nat) (g : Nat → Nat → Int) (type : Int32) (ht0 : 0 ≤ type.toInt) (ht8 : type.toInt ≤ 8) : Met l yX0_startOf wsX0_startOf ({ frames := 0, cells := 0, slots := 0, locals := 0 } : Room) (hp_Pre dC dI dA κ B g [Value.int type]) (hp_Qi dC dI dA κ B (fun r u => g = u ∧ ((type.toInt < 3 ∧ r.toInt = (type.toInt - 1) * 60) ∨ (3 ≤ type.toInt ∧ r.toInt = (type.toInt - 2) * 60)))) 0 0 (hp_A B) := by
  refine Met.ofW (cc := cX0_startOf) (maxL := 1) (ret := (some .int)) (by decide) rfl ?_
  intro p e s m args below meth c s₁ Bd hml hv
  obtain ⟨rfl, hK, hN, hW, hF⟩ := hv
  have hx := Bd.exec
  have hb := Bd.bytes
  have hr := Bd.returns
  have hts := atoms_spec (ws := wsX0_startOf) Bd.pre
  have hown : s.vm.findClass RX0 = some m.cls := findClass_of_methodNamed Bd.named
  have hlocks := Bd.notSynchronized
  have hJ : hp_J dC dI dA κ B g s.heap s.heap [] := ⟨hF, va_S.rf⟩
  have hl := lv_entry ([Value.int type]) (n := 1) (Nat.le_of_ble_eq_true rfl)
  rw [lg_entry_eq]
  generalize (lg_sl ([Value.int type]) ++ List.replicate (1 - (lg_sl ([Value.int type])).length) Slot.unset).toArray = ls at hl ⊢
  have hl : lv_has ls 1 [(0, .int type)] := hl
  refine lv_iload_n hx hb dX0_startOf_0 rfl (lv_at hl 0 rfl) ?_
  refine hq_iconst hx hb dX0_startOf_1 (by decide) (by decide) (fun z1 ez1 => ?_)
  refine hq_icmp_ge (tgt := 11) hx hb dX0_startOf_2 (by decide) (fun c2 => ?_) (fun c2 => ?_)
  · refine lv_iload_n hx hb dX0_startOf_11 rfl (lv_at hl 0 rfl) ?_
    refine hq_iconst hx hb dX0_startOf_12 (by decide) (by decide) (fun z3 ez3 => ?_)
    refine hq_isub hx hb dX0_startOf_13 (by omega) (by omega) (fun x4 ex4 => ?_)
    refine hq_bipush hx hb dX0_startOf_14 (by decide) (fun z5 ez5 => ?_)
    refine hq_imul (w := x4.toInt * 60) hx hb dX0_startOf_16 (by rw [ez5]) (by omega) (by omega) (fun x6 ex6 => ?_)
    exact hp_iret hx hb hK hN hW hlocks hJ hr ⟨rfl, by omega⟩ dX0_startOf_17
  · refine lv_iload_n hx hb dX0_startOf_5 rfl (lv_at hl 0 rfl) ?_
    refine hq_iconst hx hb dX0_startOf_6 (by decide) (by decide) (fun z7 ez7 => ?_)
    refine hq_isub hx hb dX0_startOf_7 (by omega) (by omega) (fun x8 ex8 => ?_)
    refine lv_goto (tgt := 14) hx hb dX0_startOf_8 (by decide) ?_
    refine hq_bipush hx hb dX0_startOf_14 (by decide) (fun z9 ez9 => ?_)
    refine hq_imul (w := x8.toInt * 60) hx hb dX0_startOf_16 (by rw [ez9]) (by omega) (by omega) (fun x10 ex10 => ?_)
    exact hp_iret hx hb hK hN hW hlocks hJ hr ⟨rfl, by omega⟩ dX0_startOf_17
theorem iX0_clear_X0 : ∀ w ∈ wsX00, w ∈ wsX0_clear := fun _ h => List.mem_cons_of_mem _ (List.mem_append_right _ h)
set_option maxRecDepth 100000 in
set_option maxHeartbeats 4000000 in
theorem c_X0_clear (l : Launch) (dC : Nat → ClassId) (dI : Nat → Nat → Nat) (dA : Nat → ClassId) (κ : Nat → Nat) (B : Nat) (g : Nat → Nat → Int) (q : Nat) (hq : q < 20) (h0 : Nat) (k0 : κ h0 = 320 + q) : Met l yX0_clear wsX0_clear ({ frames := 1, cells := 0, slots := 0, locals := 23 } : Room) (hp_Pre dC dI dA κ B g [Value.ref h0]) (hp_Qv dC dI dA κ B (fun u => g = u)) 0 0 (hp_A B) := by
  refine Met.ofW (cc := cX0_clear) (maxL := 1) (ret := none) (by decide) rfl ?_
  intro p e s m args below meth c s₁ Bd hml hv
  obtain ⟨rfl, hK, hN, hW, hF⟩ := hv
  have hx := Bd.exec
  have hb := Bd.bytes
  have hr := Bd.returns
  have hts := atoms_spec (ws := wsX0_clear) Bd.pre
  have hown : s.vm.findClass RX0 = some m.cls := findClass_of_methodNamed Bd.named
  have hlocks := Bd.notSynchronized
  have hJ : hp_J dC dI dA κ B g s.heap s.heap [] := ⟨hF, va_S.rf⟩
  have hl := lv_entry ([Value.ref h0]) (n := 1) (Nat.le_of_ble_eq_true rfl)
  rw [lg_entry_eq]
  generalize (lg_sl ([Value.ref h0]) ++ List.replicate (1 - (lg_sl ([Value.ref h0])).length) Slot.unset).toArray = ls at hl ⊢
  have hl : lv_has ls 1 [(0, .ref h0)] := hl
  refine lv_aload_n hx hb dX0_clear_0 rfl (lv_at hl 0 rfl) ?_
  refine hp_getr (C := RX0) (T := TX0) (N := 2) (ci := 0) (kd := 320 + q) hx hb hts iX0_clear_X0 hown hK hJ k0 (hk_t320 (by omega)) rfl 0 (by decide) (hts (.fieldLink RX0 9 "NeighborBook$Contents" "sizes" "[I") (List.mem_of_getElem? (i := 1) rfl)) (fun _ h9 => h9) (hk_s320 (by omega) 0) dX0_clear_1 (fun b1 kb1 => ?_)
  refine hq_iconst hx hb dX0_clear_4 (by decide) (by decide) (fun z2 ez2 => ?_)
  refine hp_callv (va_runS (As := [.ref b1, .int z2]) (rest := []) ⟨hx, hb, hml, hown, hts⟩ (c_J7_fill_53178 l dC dI dA κ B g (q) (by omega) b1 kb1 z2 (by omega)) (va_cwS 2 hts gX0_clear_J7_fill_53178 rfl rfl rfl (by decide +kernel) ⟨Nat.le_of_ble_eq_true rfl, Nat.le_of_ble_eq_true rfl⟩) (hp_preS [.ref b1, .int z2] hK hN hW hJ) rfl rfl hl.1 rfl (lv_room (Nat.le_of_ble_eq_true rfl)) dX0_clear_5 ⟨Nat.zero_le _, Nat.zero_le _⟩) hJ (fun g3 H locs hp hJ => ?_)
  subst hp
  exact hp_vret hx hb hK hN hW hlocks hJ hr rfl dX0_clear_8
