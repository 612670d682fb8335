set_option maxRecDepth 100000 in
set_option maxHeartbeats 4000000 in
theorem e_X6_isMore (l : Launch) (dC : Nat → ClassId) (dI : Nat → Nat → Nat) (dA : Nat → ClassId) (κ : Nat → Nat) (B : Nat) (g : Nat → Nat → Int) (type : Int32) : Met l yX6_isMore wsX6_isMore ({ frames := 0, cells := 0, slots := 0, locals := 0 } : Room) (he_Pre dC dI dA κ B g [Value.int type]) (he_Qi dC dI dA κ B (fun r u => g = u ∧ ((r.toInt = 1 ∧ 4 ≤ type.toInt ∧ type.toInt ≤ 8) ∨ (r.toInt = 0 ∧ (type.toInt < 4 ∨ 8 < type.toInt))))) 0 0 (hp_A B) := by
  refine Met.ofW (cc := cX6_isMore) (maxL := 1) (ret := (some .boolean)) (by decide) rfl ?_
  intro p e s m args below meth c s₁ Bd hml hv
  obtain ⟨rfl, hK, hN, hW, hF⟩ := hv
  have hx := Bd.exec
  have hb := Bd.bytes
  have hr := Bd.returns
  have hts := atoms_spec (ws := wsX6_isMore) Bd.pre
  have hown : s.vm.findClass RX6 = some m.cls := findClass_of_methodNamed Bd.named
  have hlocks := Bd.notSynchronized
  have hJ : he_J dC dI dA κ B g s.heap s.heap [] := ⟨hF, va_S.rf⟩
  have hl := lv_entry ([Value.int type]) (n := 1) (Nat.le_of_ble_eq_true rfl)
  rw [lg_entry_eq]
  generalize (lg_sl ([Value.int type]) ++ List.replicate (1 - (lg_sl ([Value.int type])).length) Slot.unset).toArray = ls at hl ⊢
  have hl : lv_has ls 1 [(0, .int type)] := hl
  refine lv_iload_n hx hb dX6_isMore_0 rfl (lv_at hl 0 rfl) ?_
  refine hq_iconst hx hb dX6_isMore_1 (by decide) (by decide) (fun z1 ez1 => ?_)
  refine hq_icmp_lt (tgt := 15) hx hb dX6_isMore_2 (by decide) (fun c2 => ?_) (fun c2 => ?_)
  · refine hq_iconst hx hb dX6_isMore_15 (by decide) (by decide) (fun z3 ez3 => ?_)
    exact he_zret hx hb hK hN hW hlocks hJ hr (by omega) ⟨rfl, by omega⟩ dX6_isMore_16
  · refine lv_iload_n hx hb dX6_isMore_5 rfl (lv_at hl 0 rfl) ?_
    refine hq_bipush hx hb dX6_isMore_6 (by decide) (fun z4 ez4 => ?_)
    refine hq_icmp_gt (tgt := 15) hx hb dX6_isMore_8 (by decide) (fun c5 => ?_) (fun c5 => ?_)
    · refine hq_iconst hx hb dX6_isMore_15 (by decide) (by decide) (fun z6 ez6 => ?_)
      exact he_zret hx hb hK hN hW hlocks hJ hr (by omega) ⟨rfl, by omega⟩ dX6_isMore_16
    · refine hq_iconst hx hb dX6_isMore_11 (by decide) (by decide) (fun z7 ez7 => ?_)
      refine lv_goto (tgt := 16) hx hb dX6_isMore_12 (by decide) ?_
      exact he_zret hx hb hK hN hW hlocks hJ hr (by omega) ⟨rfl, by omega⟩ dX6_isMore_16
set_option maxRecDepth 100000 in
set_option maxHeartbeats 4000000 in
theorem e_X6_isPort (l : Launch) (dC : Nat → ClassId) (dI : Nat → Nat → Nat) (dA : Nat → ClassId) (κ : Nat → Nat) (B : Nat) (g : Nat → Nat → Int) (p1 : Int32) : Met l yX6_isPort wsX6_isPort ({ frames := 0, cells := 0, slots := 0, locals := 0 } : Room) (he_Pre dC dI dA κ B g [Value.int p1]) (he_Qi dC dI dA κ B (fun r u => g = u ∧ ((r.toInt = 1 ∧ 0 ≤ p1.toInt ∧ p1.toInt < 4) ∨ (r.toInt = 0 ∧ (p1.toInt < 0 ∨ 4 ≤ p1.toInt))))) 0 0 (hp_A B) := by
  refine Met.ofW (cc := cX6_isPort) (maxL := 1) (ret := (some .boolean)) (by decide) rfl ?_
  intro p e s m args below meth c s₁ Bd hml hv
  obtain ⟨rfl, hK, hN, hW, hF⟩ := hv
  have hx := Bd.exec
  have hb := Bd.bytes
  have hr := Bd.returns
  have hts := atoms_spec (ws := wsX6_isPort) Bd.pre
  have hown : s.vm.findClass RX6 = some m.cls := findClass_of_methodNamed Bd.named
  have hlocks := Bd.notSynchronized
  have hJ : he_J dC dI dA κ B g s.heap s.heap [] := ⟨hF, va_S.rf⟩
  have hl := lv_entry ([Value.int p1]) (n := 1) (Nat.le_of_ble_eq_true rfl)
  rw [lg_entry_eq]
  generalize (lg_sl ([Value.int p1]) ++ List.replicate (1 - (lg_sl ([Value.int p1])).length) Slot.unset).toArray = ls at hl ⊢
  have hl : lv_has ls 1 [(0, .int p1)] := hl
  refine lv_iload_n hx hb dX6_isPort_0 rfl (lv_at hl 0 rfl) ?_
  refine hq_if_lt (tgt := 13) hx hb dX6_isPort_1 (by decide) (fun c1 => ?_) (fun c1 => ?_)
  · refine hq_iconst hx hb dX6_isPort_13 (by decide) (by decide) (fun z2 ez2 => ?_)
    exact he_zret hx hb hK hN hW hlocks hJ hr (by omega) ⟨rfl, by omega⟩ dX6_isPort_14
  · refine lv_iload_n hx hb dX6_isPort_4 rfl (lv_at hl 0 rfl) ?_
    refine hq_iconst hx hb dX6_isPort_5 (by decide) (by decide) (fun z3 ez3 => ?_)
    refine hq_icmp_ge (tgt := 13) hx hb dX6_isPort_6 (by decide) (fun c4 => ?_) (fun c4 => ?_)
    · refine hq_iconst hx hb dX6_isPort_13 (by decide) (by decide) (fun z5 ez5 => ?_)
      exact he_zret hx hb hK hN hW hlocks hJ hr (by omega) ⟨rfl, by omega⟩ dX6_isPort_14
    · refine hq_iconst hx hb dX6_isPort_9 (by decide) (by decide) (fun z6 ez6 => ?_)
      refine lv_goto (tgt := 14) hx hb dX6_isPort_10 (by decide) ?_
      exact he_zret hx hb hK hN hW hlocks hJ hr (by omega) ⟨rfl, by omega⟩ dX6_isPort_14
set_option maxRecDepth 100000 in
set_option maxHeartbeats 4000000 in
theorem e_X6_isTellable (l : Launch) (dC : Nat → ClassId) (dI : Nat → Nat → Nat) (dA : Nat → ClassId) (κ : Nat → Nat) (B : Nat) (g : Nat → Nat → Int) (type : Int32) (size : Int32) : Met l yX6_isTellable wsX6_isTellable ({ frames := 1, cells := 0, slots := 0, locals := 20 } : Room) (he_Pre dC dI dA κ B g [Value.int type, Value.int size]) (he_Qi dC dI dA κ B (fun r u => g = u ∧ ((r.toInt = 1 ∧ (((type.toInt = 1 ∨ type.toInt = 2) ∧ 2 ≤ size.toInt ∧ size.toInt ≤ 59) ∨ (4 ≤ type.toInt ∧ type.toInt ≤ 8 ∧ size.toInt ≤ 60))) ∨ (r.toInt = 0 ∧ ¬ (((type.toInt = 1 ∨ type.toInt = 2) ∧ 2 ≤ size.toInt ∧ size.toInt ≤ 59) ∨ (4 ≤ type.toInt ∧ type.toInt ≤ 8 ∧ size.toInt ≤ 60)))))) 0 0 (hp_A B) := by
  refine Met.ofW (cc := cX6_isTellable) (maxL := 2) (ret := (some .boolean)) (by decide) rfl ?_
  intro p e s m args below meth c s₁ Bd hml hv
  obtain ⟨rfl, hK, hN, hW, hF⟩ := hv
  have hx := Bd.exec
  have hb := Bd.bytes
  have hr := Bd.returns
  have hts := atoms_spec (ws := wsX6_isTellable) Bd.pre
  have hown : s.vm.findClass RX6 = some m.cls := findClass_of_methodNamed Bd.named
  have hlocks := Bd.notSynchronized
  have hJ : he_J dC dI dA κ B g s.heap s.heap [] := ⟨hF, va_S.rf⟩
  have hl := lv_entry ([Value.int type, Value.int size]) (n := 2) (Nat.le_of_ble_eq_true rfl)
  rw [lg_entry_eq]
  generalize (lg_sl ([Value.int type, Value.int size]) ++ List.replicate (2 - (lg_sl ([Value.int type, Value.int size])).length) Slot.unset).toArray = ls at hl ⊢
  have hl : lv_has ls 2 [(0, .int type), (1, .int size)] := hl
  refine lv_iload_n hx hb dX6_isTellable_0 rfl (lv_at hl 0 rfl) ?_
  refine hq_iconst hx hb dX6_isTellable_1 (by decide) (by decide) (fun z1 ez1 => ?_)
  refine hq_icmp_eq (tgt := 10) hx hb dX6_isTellable_2 (by decide) (fun c2 => ?_) (fun c2 => ?_)
  · refine lv_iload_n hx hb dX6_isTellable_10 rfl (lv_at hl 1 rfl) ?_
    refine hq_iconst hx hb dX6_isTellable_11 (by decide) (by decide) (fun z3 ez3 => ?_)
    refine hq_icmp_lt (tgt := 25) hx hb dX6_isTellable_12 (by decide) (fun c4 => ?_) (fun c4 => ?_)
    · refine hq_iconst hx hb dX6_isTellable_25 (by decide) (by decide) (fun z5 ez5 => ?_)
      exact he_zret hx hb hK hN hW hlocks hJ hr (by omega) ⟨rfl, by omega⟩ dX6_isTellable_26
    · refine lv_iload_n hx hb dX6_isTellable_15 rfl (lv_at hl 1 rfl) ?_
      refine hq_bipush hx hb dX6_isTellable_16 (by decide) (fun z6 ez6 => ?_)
      refine hq_icmp_gt (tgt := 25) hx hb dX6_isTellable_18 (by decide) (fun c7 => ?_) (fun c7 => ?_)
      · refine hq_iconst hx hb dX6_isTellable_25 (by decide) (by decide) (fun z8 ez8 => ?_)
        exact he_zret hx hb hK hN hW hlocks hJ hr (by omega) ⟨rfl, by omega⟩ dX6_isTellable_26
      · refine hq_iconst hx hb dX6_isTellable_21 (by decide) (by decide) (fun z9 ez9 => ?_)
        refine lv_goto (tgt := 26) hx hb dX6_isTellable_22 (by decide) ?_
        exact he_zret hx hb hK hN hW hlocks hJ hr (by omega) ⟨rfl, by omega⟩ dX6_isTellable_26
  · refine lv_iload_n hx hb dX6_isTellable_5 rfl (lv_at hl 0 rfl) ?_
    refine hq_iconst hx hb dX6_isTellable_6 (by decide) (by decide) (fun z10 ez10 => ?_)
    refine hq_icmp_ne (tgt := 27) hx hb dX6_isTellable_7 (by decide) (fun c11 => ?_) (fun c11 => ?_)
    · refine lv_iload_n hx hb dX6_isTellable_27 rfl (lv_at hl 0 rfl) ?_
      refine he_calli (va_runS (As := [.int type]) (rest := []) ⟨hx, hb, hml, hown, hts⟩ (e_X6_isMore l dC dI dA κ B g type) (va_cwS 1 hts gX6_isTellable_X6_isMore rfl rfl rfl (by decide +kernel) ⟨Nat.le_of_ble_eq_true rfl, Nat.le_of_ble_eq_true rfl⟩) (he_preS [.int type] hK hN hW hJ) rfl rfl hl.1 rfl (lv_room (Nat.le_of_ble_eq_true rfl)) dX6_isTellable_28 ⟨Nat.zero_le _, Nat.zero_le _⟩) hJ (fun x13 g12 H locs hp hJ => ?_)
      obtain ⟨rfl, f14⟩ := hp
      refine hq_if_eq (tgt := 44) hx hb dX6_isTellable_31 (by decide) (fun c15 => ?_) (fun c15 => ?_)
      · refine hq_iconst hx hb dX6_isTellable_44 (by decide) (by decide) (fun z16 ez16 => ?_)
        exact he_zret hx hb hK hN hW hlocks hJ hr (by omega) ⟨rfl, by omega⟩ dX6_isTellable_45
      · refine lv_iload_n hx hb dX6_isTellable_34 rfl (lv_at hl 1 rfl) ?_
        refine hq_bipush hx hb dX6_isTellable_35 (by decide) (fun z17 ez17 => ?_)
        refine hq_icmp_gt (tgt := 44) hx hb dX6_isTellable_37 (by decide) (fun c18 => ?_) (fun c18 => ?_)
        · refine hq_iconst hx hb dX6_isTellable_44 (by decide) (by decide) (fun z19 ez19 => ?_)
          exact he_zret hx hb hK hN hW hlocks hJ hr (by omega) ⟨rfl, by omega⟩ dX6_isTellable_45
        · refine hq_iconst hx hb dX6_isTellable_40 (by decide) (by decide) (fun z20 ez20 => ?_)
          refine lv_goto (tgt := 45) hx hb dX6_isTellable_41 (by decide) ?_
          exact he_zret hx hb hK hN hW hlocks hJ hr (by omega) ⟨rfl, by omega⟩ dX6_isTellable_45
    · refine lv_iload_n hx hb dX6_isTellable_10 rfl (lv_at hl 1 rfl) ?_
      refine hq_iconst hx hb dX6_isTellable_11 (by decide) (by decide) (fun z21 ez21 => ?_)
      refine hq_icmp_lt (tgt := 25) hx hb dX6_isTellable_12 (by decide) (fun c22 => ?_) (fun c22 => ?_)
      · refine hq_iconst hx hb dX6_isTellable_25 (by decide) (by decide) (fun z23 ez23 => ?_)
        exact he_zret hx hb hK hN hW hlocks hJ hr (by omega) ⟨rfl, by omega⟩ dX6_isTellable_26
      · refine lv_iload_n hx hb dX6_isTellable_15 rfl (lv_at hl 1 rfl) ?_
        refine hq_bipush hx hb dX6_isTellable_16 (by decide) (fun z24 ez24 => ?_)
        refine hq_icmp_gt (tgt := 25) hx hb dX6_isTellable_18 (by decide) (fun c25 => ?_) (fun c25 => ?_)
        · refine hq_iconst hx hb dX6_isTellable_25 (by decide) (by decide) (fun z26 ez26 => ?_)
          exact he_zret hx hb hK hN hW hlocks hJ hr (by omega) ⟨rfl, by omega⟩ dX6_isTellable_26
        · refine hq_iconst hx hb dX6_isTellable_21 (by decide) (by decide) (fun z27 ez27 => ?_)
          refine lv_goto (tgt := 26) hx hb dX6_isTellable_22 (by decide) ?_
          exact he_zret hx hb hK hN hW hlocks hJ hr (by omega) ⟨rfl, by omega⟩ dX6_isTellable_26
set_option maxRecDepth 100000 in
set_option maxHeartbeats 4000000 in
theorem e_J7_fill_53178 (l : Launch) (dC : Nat → ClassId) (dI : Nat → Nat → Nat) (dA : Nat → ClassId) (κ : Nat → Nat) (B : Nat) (g : Nat → Nat → Int) (cq : Nat) (hcq : cq < 14) (arr : Nat) (karr : κ arr = 340 + cq) (val : Int32) (hv : -1 ≤ val.toInt ∧ val.toInt ≤ 0) : Met l yJ7_fill_53178 wsJ7_fill_53178 ({ frames := 0, cells := 0, slots := 0, locals := 0 } : Room) (he_Pre dC dI dA κ B g [Value.ref arr, Value.int val]) (he_Qv dC dI dA κ B (fun u => hg_Q (fun a b => a = 340 + cq) g u ∧ ∀ t : Nat, t < 9 → u (340 + cq) t = val.toInt)) 0 0 (hp_A B) := by
  refine Met.ofW (cc := cJ7_fill_53178) (maxL := 4) (ret := none) (by decide) rfl ?_
  intro p e s m args below meth c s₁ Bd hml hv
  obtain ⟨rfl, hK, hN, hW, hF⟩ := hv
  have hx := Bd.exec
  have hb := Bd.bytes
  have hr := Bd.returns
  have hts := atoms_spec (ws := wsJ7_fill_53178) Bd.pre
  have hown : s.vm.findClass RJ7 = some m.cls := findClass_of_methodNamed Bd.named
  have hlocks := Bd.notSynchronized
  have hJ : he_J dC dI dA κ B g s.heap s.heap [] := ⟨hF, va_S.rf⟩
  have hl := lv_entry ([Value.ref arr, Value.int val]) (n := 4) (Nat.le_of_ble_eq_true rfl)
  rw [lg_entry_eq]
  generalize (lg_sl ([Value.ref arr, Value.int val]) ++ List.replicate (4 - (lg_sl ([Value.ref arr, Value.int val])).length) Slot.unset).toArray = ls at hl ⊢
  have hl : lv_has ls 4 [(0, .ref arr), (1, .int val)] := hl
  refine hq_iconst hx hb dJ7_fill_53178_0 (by decide) (by decide) (fun z1 ez1 => ?_)
  refine lv_istore_n (lv' := [(2, .int z1), (0, .ref arr), (1, .int val)]) hx hb dJ7_fill_53178_1 rfl hl (by decide) rfl (fun ls hl => ?_)
  refine lv_aload_n hx hb dJ7_fill_53178_2 rfl (lv_at hl 1 rfl) ?_
  refine he_alen (q := (dA 0, .int)) (ty := 0) (n := 9) hx hb hK hJ karr (hk_t340 (by omega)) rfl rfl (by decide) dJ7_fill_53178_3 (fun x2 ex2 => ?_)
  have ex2 : x2.toInt = 9 := ex2
  refine lv_istore_n (lv' := [(3, .int x2), (2, .int z1), (0, .ref arr), (1, .int val)]) hx hb dJ7_fill_53178_4 rfl hl (by decide) rfl (fun ls hl => ?_)
  have lp5 : ∀ (nlp5 : Nat) (v3 : Int32) (g4 : Nat → Nat → Int) (H : Heap) (locs : List Loc) (ls : Array Slot), (hg_Q (fun a b => a = 340 + cq) g g4) → (0 ≤ v3.toInt) → (v3.toInt ≤ 9) → (∀ t : Nat, (t : Int) < v3.toInt → g4 (340 + cq) t = val.toInt) → (9 - v3.toInt < (nlp5 : Int)) → he_J dC dI dA κ B g4 s.heap H locs → lv_has ls 4 [(0, .ref arr), (1, .int val), (2, .int v3), (3, .int x2)] → W p l e (headSpec wsJ7_fill_53178 ({ frames := 0, cells := 0, slots := 0, locals := 0 } : Room)).room s m ([Value.ref arr, Value.int val] : List Value).toArray below meth c H locs 0 0 (MQ below (he_Qv dC dI dA κ B (fun u => hg_Q (fun a b => a = 340 + cq) g u ∧ ∀ t : Nat, t < 9 → u (340 + cq) t = val.toInt)) ([Value.ref arr, Value.int val] : List Value).toArray s 0 0 (hp_A B)) (F0 m 5 ls []) := by
    intro nlp5
    induction nlp5 with
    | zero => intro v3 g4 H locs ls iv7 iv8 iv9 iv10 hm6 hJ hl; exact absurd hm6 (by omega)
    | succ nlp5 ihlp5 =>
      intro v3 g4 H locs ls iv7 iv8 iv9 iv10 hm6 hJ hl
      refine lv_iload_n hx hb dJ7_fill_53178_5 rfl (lv_at hl 2 rfl) ?_
      refine lv_iload_n hx hb dJ7_fill_53178_6 rfl (lv_at hl 3 rfl) ?_
      refine hq_icmp_ge (tgt := 20) hx hb dJ7_fill_53178_7 (by decide) (fun c11 => ?_) (fun c11 => ?_)
      · exact he_vret hx hb hK hN hW hlocks hJ hr ⟨iv7, fun t ht => iv10 t (by omega)⟩ dJ7_fill_53178_20
      · refine lv_aload_n hx hb dJ7_fill_53178_10 rfl (lv_at hl 0 rfl) ?_
        refine lv_iload_n hx hb dJ7_fill_53178_11 rfl (lv_at hl 2 rfl) ?_
        refine lv_iload_n hx hb dJ7_fill_53178_12 rfl (lv_at hl 1 rfl) ?_
        refine he_iastx (kd := 340 + cq) (n := 9) hx hb hK hJ karr (hk_t340 (by omega)) (by omega) (by omega) (by omega) hW (hk_x340 (by omega)) (he_s340 (q := cq) (by omega) _) (he13_n _) (he13_o (by omega) (by omega)) dJ7_fill_53178_13 (fun g12 H locs eg12 ng12 hJ => ?_)
        have eg12 : g12 (340 + cq) v3.toInt.toNat = val.toInt := eg12
        have P13 : hg_Q (fun a b => a = 340 + cq) g g12 := hg_Q.put iv7 ng12 (show (340 + cq) = 340 + cq from by omega)
        refine hq_iinc (k := 2) (lv' := fun (z9 : Int32) => [(2, .int z9), (0, .ref arr), (1, .int val), (3, .int x2)]) hx hb dJ7_fill_53178_14 hl rfl (by decide) (by decide) (by omega) (by omega) (by decide) (fun _ => rfl) (fun x14 ls ex14 hl => ?_)
        have hl : lv_has ls 4 [(2, .int x14), (0, .ref arr), (1, .int val), (3, .int x2)] := hl
        refine lv_goto (tgt := 5) hx hb dJ7_fill_53178_17 (by decide) ?_
        exact ihlp5 x14 g12 _ _ ls P13 (by omega) (by omega) (fun t ht => by by_cases h9 : t = v3.toInt.toNat; (rw [h9, eg12]); (rw [ng12 (340 + cq) t (by omega)]; exact iv10 t (by omega))) (by omega) hJ (lv_sub hl [1, 2, 0, 3] rfl)
  exact lp5 ((9 - z1.toInt).toNat + 1) z1 g _ _ ls hg_Q.rf (by omega) (by omega) (fun t ht => absurd ht (by omega)) (by omega) hJ (lv_sub hl [2, 3, 1, 0] rfl)
set_option maxRecDepth 100000 in
set_option maxHeartbeats 4000000 in
theorem e_X0_isKept (l : Launch) (dC : Nat → ClassId) (dI : Nat → Nat → Nat) (dA : Nat → ClassId) (κ : Nat → Nat) (B : Nat) (g : Nat → Nat → Int) (type : Int32) : Met l yX0_isKept wsX0_isKept ({ frames := 1, cells := 0, slots := 0, locals := 20 } : Room) (he_Pre dC dI dA κ B g [Value.int type]) (he_Qi dC dI dA κ B (fun r u => g = u ∧ ((r.toInt = 1 ∧ (type.toInt = 1 ∨ type.toInt = 2 ∨ (4 ≤ type.toInt ∧ type.toInt ≤ 8))) ∨ (r.toInt = 0 ∧ ¬ (type.toInt = 1 ∨ type.toInt = 2 ∨ (4 ≤ type.toInt ∧ type.toInt ≤ 8)))))) 0 0 (hp_A B) := by
  refine Met.ofW (cc := cX0_isKept) (maxL := 1) (ret := (some .boolean)) (by decide) rfl ?_
  intro p e s m args below meth c s₁ Bd hml hv
  obtain ⟨rfl, hK, hN, hW, hF⟩ := hv
  have hx := Bd.exec
  have hb := Bd.bytes
  have hr := Bd.returns
  have hts := atoms_spec (ws := wsX0_isKept) Bd.pre
  have hown : s.vm.findClass RX0 = some m.cls := findClass_of_methodNamed Bd.named
  have hlocks := Bd.notSynchronized
  have hJ : he_J dC dI dA κ B g s.heap s.heap [] := ⟨hF, va_S.rf⟩
  have hl := lv_entry ([Value.int type]) (n := 1) (Nat.le_of_ble_eq_true rfl)
  rw [lg_entry_eq]
  generalize (lg_sl ([Value.int type]) ++ List.replicate (1 - (lg_sl ([Value.int type])).length) Slot.unset).toArray = ls at hl ⊢
  have hl : lv_has ls 1 [(0, .int type)] := hl
  refine lv_iload_n hx hb dX0_isKept_0 rfl (lv_at hl 0 rfl) ?_
  refine hq_iconst hx hb dX0_isKept_1 (by decide) (by decide) (fun z1 ez1 => ?_)
  refine hq_icmp_eq (tgt := 17) hx hb dX0_isKept_2 (by decide) (fun c2 => ?_) (fun c2 => ?_)
  · refine hq_iconst hx hb dX0_isKept_17 (by decide) (by decide) (fun z3 ez3 => ?_)
    refine lv_goto (tgt := 22) hx hb dX0_isKept_18 (by decide) ?_
    exact he_zret hx hb hK hN hW hlocks hJ hr (by omega) ⟨rfl, by omega⟩ dX0_isKept_22
  · refine lv_iload_n hx hb dX0_isKept_5 rfl (lv_at hl 0 rfl) ?_
    refine hq_iconst hx hb dX0_isKept_6 (by decide) (by decide) (fun z4 ez4 => ?_)
    refine hq_icmp_eq (tgt := 17) hx hb dX0_isKept_7 (by decide) (fun c5 => ?_) (fun c5 => ?_)
    · refine hq_iconst hx hb dX0_isKept_17 (by decide) (by decide) (fun z6 ez6 => ?_)
      refine lv_goto (tgt := 22) hx hb dX0_isKept_18 (by decide) ?_
      exact he_zret hx hb hK hN hW hlocks hJ hr (by omega) ⟨rfl, by omega⟩ dX0_isKept_22
    · refine lv_iload_n hx hb dX0_isKept_10 rfl (lv_at hl 0 rfl) ?_
      refine he_calli (va_runSN (As := [.int type]) (rest := []) ⟨hx, hb, hml, hown, hts⟩ (e_X6_isMore l dC dI dA κ B g type) ⟨va_cnB 1 hts gX0_isKept_X6_isMore_n22 rfl rfl rfl (hN _ (List.mem_of_getElem? (i := 4) rfl)) (hts (.initialized RX6) (List.mem_of_getElem? (i := 2) rfl)) (by decide +kernel) ⟨Nat.le_of_ble_eq_true rfl, Nat.le_of_ble_eq_true rfl⟩, (hts (.static yX6_isMore) (List.mem_of_getElem? (i := 1) rfl)), trivial⟩ (he_preS [.int type] hK hN hW hJ) rfl rfl hl.1 rfl (lv_room (Nat.le_of_ble_eq_true rfl)) dX0_isKept_11 ⟨Nat.zero_le _, Nat.zero_le _⟩) hJ (fun x8 g7 H locs hp hJ => ?_)
      obtain ⟨rfl, f9⟩ := hp
      refine hq_if_eq (tgt := 21) hx hb dX0_isKept_14 (by decide) (fun c10 => ?_) (fun c10 => ?_)
      · refine hq_iconst hx hb dX0_isKept_21 (by decide) (by decide) (fun z11 ez11 => ?_)
        exact he_zret hx hb hK hN hW hlocks hJ hr (by omega) ⟨rfl, by omega⟩ dX0_isKept_22
      · refine hq_iconst hx hb dX0_isKept_17 (by decide) (by decide) (fun z12 ez12 => ?_)
        refine lv_goto (tgt := 22) hx hb dX0_isKept_18 (by decide) ?_
        exact he_zret hx hb hK hN hW hlocks hJ hr (by omega) ⟨rfl, by omega⟩ dX0_isKept_22
set_option maxRecDepth 100000 in
set_option maxHeartbeats 4000000 in
theorem e_X0_startOf (l : Launch) (dC : Nat → ClassId) (dI : Nat → Nat → Nat) (dA : Nat → ClassId) (κ : Nat → Nat) (B : Nat) (g : Nat → Nat → Int) (type : Int32) (ht0 : 0 ≤ type.toInt) (ht8 : type.toInt ≤ 8) : Met l yX0_startOf wsX0_startOf ({ frames := 0, cells := 0, slots := 0, locals := 0 } : Room) (he_Pre dC dI dA κ B g [Value.int type]) (he_Qi dC dI dA κ B (fun r u => g = u ∧ ((type.toInt < 3 ∧ r.toInt = (type.toInt - 1) * 60) ∨ (3 ≤ type.toInt ∧ r.toInt = (type.toInt - 2) * 60)))) 0 0 (hp_A B) := by
  refine Met.ofW (cc := cX0_startOf) (maxL := 1) (ret := (some .int)) (by decide) rfl ?_
  intro p e s m args below meth c s₁ Bd hml hv
  obtain ⟨rfl, hK, hN, hW, hF⟩ := hv
  have hx := Bd.exec
  have hb := Bd.bytes
  have hr := Bd.returns
  have hts := atoms_spec (ws := wsX0_startOf) Bd.pre
  have hown : s.vm.findClass RX0 = some m.cls := findClass_of_methodNamed Bd.named
  have hlocks := Bd.notSynchronized
  have hJ : he_J dC dI dA κ B g s.heap s.heap [] := ⟨hF, va_S.rf⟩
  have hl := lv_entry ([Value.int type]) (n := 1) (Nat.le_of_ble_eq_true rfl)
  rw [lg_entry_eq]
  generalize (lg_sl ([Value.int type]) ++ List.replicate (1 - (lg_sl ([Value.int type])).length) Slot.unset).toArray = ls at hl ⊢
  have hl : lv_has ls 1 [(0, .int type)] := hl
  refine lv_iload_n hx hb dX0_startOf_0 rfl (lv_at hl 0 rfl) ?_
  refine hq_iconst hx hb dX0_startOf_1 (by decide) (by decide) (fun z1 ez1 => ?_)
  refine hq_icmp_ge (tgt := 11) hx hb dX0_startOf_2 (by decide) (fun c2 => ?_) (fun c2 => ?_)
  · refine lv_iload_n hx hb dX0_startOf_11 rfl (lv_at hl 0 rfl) ?_
    refine hq_iconst hx hb dX0_startOf_12 (by decide) (by decide) (fun z3 ez3 => ?_)
    refine hq_isub hx hb dX0_startOf_13 (by omega) (by omega) (fun x4 ex4 => ?_)
    refine hq_bipush hx hb dX0_startOf_14 (by decide) (fun z5 ez5 => ?_)
    refine hq_imul (w := x4.toInt * 60) hx hb dX0_startOf_16 (by rw [ez5]) (by omega) (by omega) (fun x6 ex6 => ?_)
    exact he_iret hx hb hK hN hW hlocks hJ hr ⟨rfl, by omega⟩ dX0_startOf_17
  · refine lv_iload_n hx hb dX0_startOf_5 rfl (lv_at hl 0 rfl) ?_
    refine hq_iconst hx hb dX0_startOf_6 (by decide) (by decide) (fun z7 ez7 => ?_)
    refine hq_isub hx hb dX0_startOf_7 (by omega) (by omega) (fun x8 ex8 => ?_)
    refine lv_goto (tgt := 14) hx hb dX0_startOf_8 (by decide) ?_
    refine hq_bipush hx hb dX0_startOf_14 (by decide) (fun z9 ez9 => ?_)
    refine hq_imul (w := x8.toInt * 60) hx hb dX0_startOf_16 (by rw [ez9]) (by omega) (by omega) (fun x10 ex10 => ?_)
    exact he_iret hx hb hK hN hW hlocks hJ hr ⟨rfl, by omega⟩ dX0_startOf_17
set_option maxRecDepth 100000 in
set_option maxHeartbeats 4000000 in
theorem e_X0_clear (l : Launch) (dC : Nat → ClassId) (dI : Nat → Nat → Nat) (dA : Nat → ClassId) (κ : Nat → Nat) (B : Nat) (g : Nat → Nat → Int) (cq : Nat) (hcq : cq < 14) (h0 : Nat) (k0 : κ h0 = 320 + cq) : Met l yX0_clear wsX0_clear ({ frames := 1, cells := 0, slots := 0, locals := 23 } : Room) (he_Pre dC dI dA κ B g [Value.ref h0]) (he_Qv dC dI dA κ B (fun u => hg_Q (fun a b => a = 340 + cq) g u ∧ ∀ t : Nat, t < 9 → u (340 + cq) t = -1)) 0 0 (hp_A B) := by
  refine Met.ofW (cc := cX0_clear) (maxL := 1) (ret := none) (by decide) rfl ?_
  intro p e s m args below meth c s₁ Bd hml hv
  obtain ⟨rfl, hK, hN, hW, hF⟩ := hv
  have hx := Bd.exec
  have hb := Bd.bytes
  have hr := Bd.returns
  have hts := atoms_spec (ws := wsX0_clear) Bd.pre
  have hown : s.vm.findClass RX0 = some m.cls := findClass_of_methodNamed Bd.named
  have hlocks := Bd.notSynchronized
  have hJ : he_J dC dI dA κ B g s.heap s.heap [] := ⟨hF, va_S.rf⟩
  have hl := lv_entry ([Value.ref h0]) (n := 1) (Nat.le_of_ble_eq_true rfl)
  rw [lg_entry_eq]
  generalize (lg_sl ([Value.ref h0]) ++ List.replicate (1 - (lg_sl ([Value.ref h0])).length) Slot.unset).toArray = ls at hl ⊢
  have hl : lv_has ls 1 [(0, .ref h0)] := hl
  refine lv_aload_n hx hb dX0_clear_0 rfl (lv_at hl 0 rfl) ?_
  refine he_getr (C := RX0) (T := TX0) (N := 2) (ci := 0) (kd := 320 + cq) hx hb hts iX0_clear_X0 hown hK hJ k0 (hk_t320 (by omega)) rfl 0 (by decide) (hts (.fieldLink RX0 9 "NeighborBook$Contents" "sizes" "[I") (List.mem_of_getElem? (i := 1) rfl)) (fun _ h9 => h9) (he_s320 (by omega) 0) dX0_clear_1 (fun b1 kb1 => ?_)
  refine hq_iconst hx hb dX0_clear_4 (by decide) (by decide) (fun z2 ez2 => ?_)
  refine he_callv (va_runS (As := [.ref b1, .int z2]) (rest := []) ⟨hx, hb, hml, hown, hts⟩ (e_J7_fill_53178 l dC dI dA κ B g (cq) (by omega) b1 kb1 z2 (by omega)) (va_cwS 2 hts gX0_clear_J7_fill_53178 rfl rfl rfl (by decide +kernel) ⟨Nat.le_of_ble_eq_true rfl, Nat.le_of_ble_eq_true rfl⟩) (he_preS [.ref b1, .int z2] hK hN hW hJ) rfl rfl hl.1 rfl (lv_room (Nat.le_of_ble_eq_true rfl)) dX0_clear_5 ⟨Nat.zero_le _, Nat.zero_le _⟩) hJ (fun g3 H locs hp hJ => ?_)
  obtain ⟨P5a, f4⟩ := hp
  have P5 : hg_Q (fun a b => a = 340 + cq) g g3 := (hg_Q.le P5a (fun a b h9 => by have h9 : a = 340 + cq := h9; show a = 340 + cq; omega))
  exact he_vret hx hb hK hN hW hlocks hJ hr ⟨P5, fun t ht => by rw [f4 t ht]; omega⟩ dX0_clear_8
theorem iX0_sizeOf_X0 : ∀ w ∈ wsX00, w ∈ wsX0_sizeOf := fun _ h => List.mem_cons_of_mem _ (List.mem_append_right _ h)
set_option maxRecDepth 100000 in
set_option maxHeartbeats 4000000 in
theorem e_X0_sizeOf (l : Launch) (dC : Nat → ClassId) (dI : Nat → Nat → Nat) (dA : Nat → ClassId) (κ : Nat → Nat) (B : Nat) (g : Nat → Nat → Int) (cq : Nat) (hcq : cq < 14) (h0 : Nat) (k0 : κ h0 = 320 + cq) (type : Int32) : Met l yX0_sizeOf wsX0_sizeOf ({ frames := 0, cells := 0, slots := 0, locals := 0 } : Room) (he_Pre dC dI dA κ B g [Value.ref h0, Value.int type]) (he_Qi dC dI dA κ B (fun r u => g = u ∧ ((0 ≤ type.toInt ∧ type.toInt < 9 ∧ r.toInt = g (340 + cq) type.toInt.toNat) ∨ ((type.toInt < 0 ∨ 9 ≤ type.toInt) ∧ r.toInt = -1)) ∧ -1 ≤ r.toInt ∧ r.toInt ≤ 60 ∧ (0 < r.toInt → (type.toInt = 1 ∨ type.toInt = 2 ∨ (4 ≤ type.toInt ∧ type.toInt ≤ 8))))) 0 0 (hp_A B) := by
  refine Met.ofW (cc := cX0_sizeOf) (maxL := 2) (ret := (some .int)) (by decide) rfl ?_
  intro p e s m args below meth c s₁ Bd hml hv
  obtain ⟨rfl, hK, hN, hW, hF⟩ := hv
  have hx := Bd.exec
  have hb := Bd.bytes
  have hr := Bd.returns
  have hts := atoms_spec (ws := wsX0_sizeOf) Bd.pre
  have hown : s.vm.findClass RX0 = some m.cls := findClass_of_methodNamed Bd.named
  have hlocks := Bd.notSynchronized
  have hJ : he_J dC dI dA κ B g s.heap s.heap [] := ⟨hF, va_S.rf⟩
  have hl := lv_entry ([Value.ref h0, Value.int type]) (n := 2) (Nat.le_of_ble_eq_true rfl)
  rw [lg_entry_eq]
  generalize (lg_sl ([Value.ref h0, Value.int type]) ++ List.replicate (2 - (lg_sl ([Value.ref h0, Value.int type])).length) Slot.unset).toArray = ls at hl ⊢
  have hl : lv_has ls 2 [(0, .ref h0), (1, .int type)] := hl
  refine lv_iload_n hx hb dX0_sizeOf_0 rfl (lv_at hl 1 rfl) ?_
  refine hq_if_lt (tgt := 22) hx hb dX0_sizeOf_1 (by decide) (fun c1 => ?_) (fun c1 => ?_)
  · refine hq_iconst hx hb dX0_sizeOf_22 (by decide) (by decide) (fun z2 ez2 => ?_)
    exact he_iret hx hb hK hN hW hlocks hJ hr ⟨rfl, by omega⟩ dX0_sizeOf_23
  · refine lv_iload_n hx hb dX0_sizeOf_4 rfl (lv_at hl 1 rfl) ?_
    refine lv_aload_n hx hb dX0_sizeOf_5 rfl (lv_at hl 0 rfl) ?_
    refine he_getr (C := RX0) (T := TX0) (N := 2) (ci := 0) (kd := 320 + cq) hx hb hts iX0_sizeOf_X0 hown hK hJ k0 (hk_t320 (by omega)) rfl 0 (by decide) (hts (.fieldLink RX0 9 "NeighborBook$Contents" "sizes" "[I") (List.mem_of_getElem? (i := 1) rfl)) (fun _ h9 => h9) (he_s320 (by omega) 0) dX0_sizeOf_6 (fun b3 kb3 => ?_)
    refine he_alen (q := (dA 0, .int)) (ty := 0) (n := 9) hx hb hK hJ kb3 (hk_t340 (by omega)) rfl rfl (by decide) dX0_sizeOf_9 (fun x4 ex4 => ?_)
    have ex4 : x4.toInt = 9 := ex4
    refine hq_icmp_ge (tgt := 22) hx hb dX0_sizeOf_10 (by decide) (fun c5 => ?_) (fun c5 => ?_)
    · refine hq_iconst hx hb dX0_sizeOf_22 (by decide) (by decide) (fun z6 ez6 => ?_)
      exact he_iret hx hb hK hN hW hlocks hJ hr ⟨rfl, by omega⟩ dX0_sizeOf_23
    · refine lv_aload_n hx hb dX0_sizeOf_13 rfl (lv_at hl 0 rfl) ?_
      refine he_getr (C := RX0) (T := TX0) (N := 2) (ci := 0) (kd := 320 + cq) hx hb hts iX0_sizeOf_X0 hown hK hJ k0 (hk_t320 (by omega)) rfl 0 (by decide) (hts (.fieldLink RX0 9 "NeighborBook$Contents" "sizes" "[I") (List.mem_of_getElem? (i := 1) rfl)) (fun _ h9 => h9) (he_s320 (by omega) 0) dX0_sizeOf_14 (fun b7 kb7 => ?_)
      refine lv_iload_n hx hb dX0_sizeOf_17 rfl (lv_at hl 1 rfl) ?_
      refine he_iald (kd := 340 + cq) (n := 9) hx hb hK hJ kb7 (hk_t340 (by omega)) (by omega) (by omega) (he_s340 (q := cq) (by omega) _) (he13_n _) dX0_sizeOf_18 (fun x8 ex8 => ?_)
      have ex8 := he13_i ex8
      refine lv_goto (tgt := 23) hx hb dX0_sizeOf_19 (by decide) ?_
      exact he_iret hx hb hK hN hW hlocks hJ hr ⟨rfl, by omega⟩ dX0_sizeOf_23
theorem iX0_has_X0 : ∀ w ∈ wsX00, w ∈ wsX0_has := fun _ h => List.mem_cons_of_mem _ (List.mem_append_right _ h)
set_option maxRecDepth 100000 in
set_option maxHeartbeats 4000000 in
theorem e_X0_has (l : Launch) (dC : Nat → ClassId) (dI : Nat → Nat → Nat) (dA : Nat → ClassId) (κ : Nat → Nat) (B : Nat) (g : Nat → Nat → Int) (cq : Nat) (hcq : cq < 14) (h0 : Nat) (k0 : κ h0 = 320 + cq) (type : Int32) : Met l yX0_has wsX0_has ({ frames := 1, cells := 0, slots := 0, locals := 21 } : Room) (he_Pre dC dI dA κ B g [Value.ref h0, Value.int type]) (he_Qi dC dI dA κ B (fun r u => g = u ∧ ((r.toInt = 1 ∧ (0 ≤ type.toInt ∧ type.toInt < 9 ∧ g (340 + cq) type.toInt.toNat ≠ -1)) ∨ (r.toInt = 0 ∧ ¬ (0 ≤ type.toInt ∧ type.toInt < 9 ∧ g (340 + cq) type.toInt.toNat ≠ -1))))) 0 0 (hp_A B) := by
  refine Met.ofW (cc := cX0_has) (maxL := 2) (ret := (some .boolean)) (by decide) rfl ?_
  intro p e s m args below meth c s₁ Bd hml hv
  obtain ⟨rfl, hK, hN, hW, hF⟩ := hv
  have hx := Bd.exec
  have hb := Bd.bytes
  have hr := Bd.returns
  have hts := atoms_spec (ws := wsX0_has) Bd.pre
  have hown : s.vm.findClass RX0 = some m.cls := findClass_of_methodNamed Bd.named
  have hlocks := Bd.notSynchronized
  have hJ : he_J dC dI dA κ B g s.heap s.heap [] := ⟨hF, va_S.rf⟩
  have hl := lv_entry ([Value.ref h0, Value.int type]) (n := 2) (Nat.le_of_ble_eq_true rfl)
  rw [lg_entry_eq]
  generalize (lg_sl ([Value.ref h0, Value.int type]) ++ List.replicate (2 - (lg_sl ([Value.ref h0, Value.int type])).length) Slot.unset).toArray = ls at hl ⊢
  have hl : lv_has ls 2 [(0, .ref h0), (1, .int type)] := hl
  refine lv_aload_n hx hb dX0_has_0 rfl (lv_at hl 0 rfl) ?_
  refine lv_iload_n hx hb dX0_has_1 rfl (lv_at hl 1 rfl) ?_
  refine he_calli (va_runV (As := [.int type]) (rest := []) ⟨hx, hb, hml, hown, hts⟩ (e_X0_sizeOf l dC dI dA κ B g (cq) (by omega) h0 k0 type) (cwV 1 hts gX0_has_X0_sizeOf rfl rfl rfl (by decide +kernel) ⟨Nat.le_of_ble_eq_true rfl, Nat.le_of_ble_eq_true rfl⟩) (he_preV (q := (RX0, TX0, 2)) [.int type] hK hN hW hJ k0 (hk_t320 (by omega)) rfl) rfl rfl hl.1 rfl (lv_room (Nat.le_of_ble_eq_true rfl)) dX0_has_2 ⟨Nat.zero_le _, Nat.zero_le _⟩) hJ (fun x2 g1 H locs hp hJ => ?_)
  obtain ⟨rfl, f3⟩ := hp
  refine hq_iconst hx hb dX0_has_5 (by decide) (by decide) (fun z4 ez4 => ?_)
  refine hq_icmp_eq (tgt := 13) hx hb dX0_has_6 (by decide) (fun c5 => ?_) (fun c5 => ?_)
  · refine hq_iconst hx hb dX0_has_13 (by decide) (by decide) (fun z6 ez6 => ?_)
    exact he_zret hx hb hK hN hW hlocks hJ hr (by omega) ⟨rfl, by omega⟩ dX0_has_14
  · refine hq_iconst hx hb dX0_has_9 (by decide) (by decide) (fun z7 ez7 => ?_)
    refine lv_goto (tgt := 14) hx hb dX0_has_10 (by decide) ?_
    exact he_zret hx hb hK hN hW hlocks hJ hr (by omega) ⟨rfl, by omega⟩ dX0_has_14
theorem iX0_drop_X0 : ∀ w ∈ wsX00, w ∈ wsX0_drop := fun _ h => List.mem_cons_of_mem _ (List.mem_append_right _ h)
set_option maxRecDepth 100000 in
set_option maxHeartbeats 4000000 in
theorem e_X0_drop (l : Launch) (dC : Nat → ClassId) (dI : Nat → Nat → Nat) (dA : Nat → ClassId) (κ : Nat → Nat) (B : Nat) (g : Nat → Nat → Int) (cq : Nat) (hcq : cq < 14) (h0 : Nat) (k0 : κ h0 = 320 + cq) (type : Int32) : Met l yX0_drop wsX0_drop ({ frames := 2, cells := 0, slots := 0, locals := 42 } : Room) (he_Pre dC dI dA κ B g [Value.ref h0, Value.int type]) (he_Qv dC dI dA κ B (fun u => hg_Q (fun a b => a = 340 + cq) g u)) 0 0 (hp_A B) := by
  refine Met.ofW (cc := cX0_drop) (maxL := 2) (ret := none) (by decide) rfl ?_
  intro p e s m args below meth c s₁ Bd hml hv
  obtain ⟨rfl, hK, hN, hW, hF⟩ := hv
  have hx := Bd.exec
  have hb := Bd.bytes
  have hr := Bd.returns
  have hts := atoms_spec (ws := wsX0_drop) Bd.pre
  have hown : s.vm.findClass RX0 = some m.cls := findClass_of_methodNamed Bd.named
  have hlocks := Bd.notSynchronized
  have hJ : he_J dC dI dA κ B g s.heap s.heap [] := ⟨hF, va_S.rf⟩
  have hl := lv_entry ([Value.ref h0, Value.int type]) (n := 2) (Nat.le_of_ble_eq_true rfl)
  rw [lg_entry_eq]
  generalize (lg_sl ([Value.ref h0, Value.int type]) ++ List.replicate (2 - (lg_sl ([Value.ref h0, Value.int type])).length) Slot.unset).toArray = ls at hl ⊢
  have hl : lv_has ls 2 [(0, .ref h0), (1, .int type)] := hl
  refine lv_aload_n hx hb dX0_drop_0 rfl (lv_at hl 0 rfl) ?_
  refine lv_iload_n hx hb dX0_drop_1 rfl (lv_at hl 1 rfl) ?_
  refine he_calli (va_runV (As := [.int type]) (rest := []) ⟨hx, hb, hml, hown, hts⟩ (e_X0_has l dC dI dA κ B g (cq) (by omega) h0 k0 type) (cwV 1 hts gX0_drop_X0_has rfl rfl rfl (by decide +kernel) ⟨Nat.le_of_ble_eq_true rfl, Nat.le_of_ble_eq_true rfl⟩) (he_preV (q := (RX0, TX0, 2)) [.int type] hK hN hW hJ k0 (hk_t320 (by omega)) rfl) rfl rfl hl.1 rfl (lv_room (Nat.le_of_ble_eq_true rfl)) dX0_drop_2 ⟨Nat.zero_le _, Nat.zero_le _⟩) hJ (fun x2 g1 H locs hp hJ => ?_)
  obtain ⟨rfl, f3⟩ := hp
  refine hq_if_eq (tgt := 15) hx hb dX0_drop_5 (by decide) (fun c4 => ?_) (fun c4 => ?_)
  · exact he_vret hx hb hK hN hW hlocks hJ hr hg_Q.rf dX0_drop_15
  · refine lv_aload_n hx hb dX0_drop_8 rfl (lv_at hl 0 rfl) ?_
    refine he_getr (C := RX0) (T := TX0) (N := 2) (ci := 0) (kd := 320 + cq) hx hb hts iX0_drop_X0 hown hK hJ k0 (hk_t320 (by omega)) rfl 0 (by decide) (hts (.fieldLink RX0 9 "NeighborBook$Contents" "sizes" "[I") (List.mem_of_getElem? (i := 1) rfl)) (fun _ h9 => h9) (he_s320 (by omega) 0) dX0_drop_9 (fun b5 kb5 => ?_)
    refine lv_iload_n hx hb dX0_drop_12 rfl (lv_at hl 1 rfl) ?_
    refine hq_iconst hx hb dX0_drop_13 (by decide) (by decide) (fun z6 ez6 => ?_)
    refine he_iastx (kd := 340 + cq) (n := 9) hx hb hK hJ kb5 (hk_t340 (by omega)) (by omega) (by omega) (by omega) hW (hk_x340 (by omega)) (he_s340 (q := cq) (by omega) _) (he13_n _) (he13_o (by omega) (by omega)) dX0_drop_14 (fun g7 H locs eg7 ng7 hJ => ?_)
    have eg7 : g7 (340 + cq) type.toInt.toNat = z6.toInt := eg7
    have P8 : hg_Q (fun a b => a = 340 + cq) g g7 := hg_Q.put hg_Q.rf ng7 (show (340 + cq) = 340 + cq from by omega)
    exact he_vret hx hb hK hN hW hlocks hJ hr P8 dX0_drop_15
theorem iX0_byteAt_X0 : ∀ w ∈ wsX00, w ∈ wsX0_byteAt := fun _ h => List.mem_cons_of_mem _ (List.mem_append_right _ h)
set_option maxRecDepth 100000 in
set_option maxHeartbeats 4000000 in
theorem e_X0_byteAt (l : Launch) (dC : Nat → ClassId) (dI : Nat → Nat → Nat) (dA : Nat → ClassId) (κ : Nat → Nat) (B : Nat) (g : Nat → Nat → Int) (cq : Nat) (hcq : cq < 14) (h0 : Nat) (k0 : κ h0 = 320 + cq) (type : Int32) (k : Int32) : Met l yX0_byteAt wsX0_byteAt ({ frames := 1, cells := 0, slots := 0, locals := 21 } : Room) (he_Pre dC dI dA κ B g [Value.ref h0, Value.int type, Value.int k]) (he_Qi dC dI dA κ B (fun r u => g = u ∧ (((0 ≤ k.toInt ∧ 0 ≤ type.toInt ∧ type.toInt < 9 ∧ k.toInt < g (340 + cq) type.toInt.toNat) ∧ r.toInt = g (360 + cq) (hc_st type.toInt.toNat + k.toInt.toNat) % 256) ∨ (¬ (0 ≤ k.toInt ∧ 0 ≤ type.toInt ∧ type.toInt < 9 ∧ k.toInt < g (340 + cq) type.toInt.toNat) ∧ r.toInt = -1)))) 0 0 (hp_A B) := by
  refine Met.ofW (cc := cX0_byteAt) (maxL := 3) (ret := (some .int)) (by decide) rfl ?_
  intro p e s m args below meth c s₁ Bd hml hv
  obtain ⟨rfl, hK, hN, hW, hF⟩ := hv
  have hx := Bd.exec
  have hb := Bd.bytes
  have hr := Bd.returns
  have hts := atoms_spec (ws := wsX0_byteAt) Bd.pre
  have hown : s.vm.findClass RX0 = some m.cls := findClass_of_methodNamed Bd.named
  have hlocks := Bd.notSynchronized
  have hJ : he_J dC dI dA κ B g s.heap s.heap [] := ⟨hF, va_S.rf⟩
  have hl := lv_entry ([Value.ref h0, Value.int type, Value.int k]) (n := 3) (Nat.le_of_ble_eq_true rfl)
  rw [lg_entry_eq]
  generalize (lg_sl ([Value.ref h0, Value.int type, Value.int k]) ++ List.replicate (3 - (lg_sl ([Value.ref h0, Value.int type, Value.int k])).length) Slot.unset).toArray = ls at hl ⊢
  have hl : lv_has ls 3 [(0, .ref h0), (1, .int type), (2, .int k)] := hl
  refine lv_iload_n hx hb dX0_byteAt_0 rfl (lv_at hl 2 rfl) ?_
  refine hq_if_lt (tgt := 13) hx hb dX0_byteAt_1 (by decide) (fun c1 => ?_) (fun c1 => ?_)
  · refine hq_iconst hx hb dX0_byteAt_13 (by decide) (by decide) (fun z2 ez2 => ?_)
    exact he_iret hx hb hK hN hW hlocks hJ hr ⟨rfl, Or.inr ⟨by omega, by omega⟩⟩ dX0_byteAt_14
  · refine lv_iload_n hx hb dX0_byteAt_4 rfl (lv_at hl 2 rfl) ?_
    refine lv_aload_n hx hb dX0_byteAt_5 rfl (lv_at hl 0 rfl) ?_
    refine lv_iload_n hx hb dX0_byteAt_6 rfl (lv_at hl 1 rfl) ?_
    refine he_calli (va_runV (As := [.int type]) (rest := [.int k]) ⟨hx, hb, hml, hown, hts⟩ (e_X0_sizeOf l dC dI dA κ B g (cq) (by omega) h0 k0 type) (cwV 1 hts gX0_byteAt_X0_sizeOf rfl rfl rfl (by decide +kernel) ⟨Nat.le_of_ble_eq_true rfl, Nat.le_of_ble_eq_true rfl⟩) (he_preV (q := (RX0, TX0, 2)) [.int type] hK hN hW hJ k0 (hk_t320 (by omega)) rfl) rfl rfl hl.1 rfl (lv_room (Nat.le_of_ble_eq_true rfl)) dX0_byteAt_7 ⟨Nat.zero_le _, Nat.zero_le _⟩) hJ (fun x4 g3 H locs hp hJ => ?_)
    obtain ⟨rfl, f5⟩ := hp
    refine hq_icmp_lt (tgt := 15) hx hb dX0_byteAt_10 (by decide) (fun c6 => ?_) (fun c6 => ?_)
    · refine lv_aload_n hx hb dX0_byteAt_15 rfl (lv_at hl 0 rfl) ?_
      refine he_getr (C := RX0) (T := TX0) (N := 2) (ci := 0) (kd := 320 + cq) hx hb hts iX0_byteAt_X0 hown hK hJ k0 (hk_t320 (by omega)) rfl 1 (by decide) (hts (.fieldLink RX0 15 "NeighborBook$Contents" "bytes" "[B") (List.mem_of_getElem? (i := 1) rfl)) (fun _ h9 => h9) (he_s320 (by omega) 1) dX0_byteAt_16 (fun b7 kb7 => ?_)
      refine lv_iload_n hx hb dX0_byteAt_19 rfl (lv_at hl 1 rfl) ?_
      refine he_calli (va_runS (As := [.int type]) (rest := [.ref b7]) ⟨hx, hb, hml, hown, hts⟩ (e_X0_startOf l dC dI dA κ B g type (by omega) (by omega)) (va_cwS 1 hts gX0_byteAt_X0_startOf rfl rfl rfl (by decide +kernel) ⟨Nat.le_of_ble_eq_true rfl, Nat.le_of_ble_eq_true rfl⟩) (he_preS [.int type] hK hN hW hJ) rfl rfl hl.1 rfl (lv_room (Nat.le_of_ble_eq_true rfl)) dX0_byteAt_20 ⟨Nat.zero_le _, Nat.zero_le _⟩) hJ (fun x9 g8 H locs hp hJ => ?_)
      obtain ⟨rfl, f10⟩ := hp
      refine lv_iload_n hx hb dX0_byteAt_23 rfl (lv_at hl 2 rfl) ?_
      refine hq_iadd hx hb dX0_byteAt_24 (by omega) (by omega) (fun x11 ex11 => ?_)
      refine he_bald (kd := 360 + cq) (n := 420) hx hb hK hJ kb7 (hk_t360 (by omega)) (by omega) (by omega) (sp := (11, 0)) (he_s360 (by omega) _) rfl dX0_byteAt_25 (fun x12 ex12 => ?_)
      have ex12 : x12.toInt = g (360 + cq) x11.toInt.toNat ∧ -128 ≤ x12.toInt ∧ x12.toInt ≤ 127 := ex12
      refine hq_sipush hx hb dX0_byteAt_26 (by decide) (fun z13 ez13 => ?_)
      refine hq_iand255 hx hb dX0_byteAt_29 ez13 (fun x14 ex14 => ?_)
      have hst : hc_st type.toInt.toNat + k.toInt.toNat = x11.toInt.toNat := by unfold hc_st; split <;> omega
      exact he_iret hx hb hK hN hW hlocks hJ hr ⟨rfl, Or.inl ⟨by omega, by rw [hst]; omega⟩⟩ dX0_byteAt_30
    · refine hq_iconst hx hb dX0_byteAt_13 (by decide) (by decide) (fun z15 ez15 => ?_)
      exact he_iret hx hb hK hN hW hlocks hJ hr ⟨rfl, Or.inr ⟨by omega, by omega⟩⟩ dX0_byteAt_14
theorem iX0_isSame_X0 : ∀ w ∈ wsX00, w ∈ wsX0_isSame := fun _ h => List.mem_cons_of_mem _ (List.mem_append_right _ h)
set_option maxRecDepth 100000 in
set_option maxHeartbeats 4000000 in
theorem e_X0_isSame (l : Launch) (dC : Nat → ClassId) (dI : Nat → Nat → Nat) (dA : Nat → ClassId) (κ : Nat → Nat) (B : Nat) (g : Nat → Nat → Int) (cq : Nat) (hcq : cq < 14) (h0 : Nat) (k0 : κ h0 = 320 + cq) (type : Int32) {kf nf : Nat} (frm : Nat) (kfrm : κ frm = kf) (start : Int32) (size : Int32) (hkf : hk_t kf = (2, 1, nf)) (hsf : ∀ j, he_s kf j = (11, 0)) (hnf : nf < 100000) (ht0 : 1 ≤ type.toInt) (ht8 : type.toInt ≤ 8) (hs0 : 0 ≤ start.toInt) (hs1 : start.toInt + size.toInt ≤ (nf : Int)) (hs2 : -1 ≤ size.toInt) : Met l yX0_isSame wsX0_isSame ({ frames := 1, cells := 0, slots := 0, locals := 21 } : Room) (he_Pre dC dI dA κ B g [Value.ref h0, Value.int type, Value.ref frm, Value.int start, Value.int size]) (he_Qi dC dI dA κ B (fun r u => g = u ∧ (r.toInt = 0 ∨ r.toInt = 1) ∧ (r.toInt = 1 ↔ he_sm g cq type.toInt.toNat kf start.toInt.toNat size.toInt))) 0 0 (hp_A B) := by
  refine Met.ofW (cc := cX0_isSame) (maxL := 7) (ret := (some .boolean)) (by decide) rfl ?_
  intro p e s m args below meth c s₁ Bd hml hv
  obtain ⟨rfl, hK, hN, hW, hF⟩ := hv
  have hx := Bd.exec
  have hb := Bd.bytes
  have hr := Bd.returns
  have hts := atoms_spec (ws := wsX0_isSame) Bd.pre
  have hown : s.vm.findClass RX0 = some m.cls := findClass_of_methodNamed Bd.named
  have hlocks := Bd.notSynchronized
  have hJ : he_J dC dI dA κ B g s.heap s.heap [] := ⟨hF, va_S.rf⟩
  have hl := lv_entry ([Value.ref h0, Value.int type, Value.ref frm, Value.int start, Value.int size]) (n := 7) (Nat.le_of_ble_eq_true rfl)
  rw [lg_entry_eq]
  generalize (lg_sl ([Value.ref h0, Value.int type, Value.ref frm, Value.int start, Value.int size]) ++ List.replicate (7 - (lg_sl ([Value.ref h0, Value.int type, Value.ref frm, Value.int start, Value.int size])).length) Slot.unset).toArray = ls at hl ⊢
  have hl : lv_has ls 7 [(0, .ref h0), (1, .int type), (2, .ref frm), (3, .int start), (4, .int size)] := hl
  refine lv_aload_n hx hb dX0_isSame_0 rfl (lv_at hl 0 rfl) ?_
  refine lv_iload_n hx hb dX0_isSame_1 rfl (lv_at hl 1 rfl) ?_
  refine he_calli (va_runV (As := [.int type]) (rest := []) ⟨hx, hb, hml, hown, hts⟩ (e_X0_sizeOf l dC dI dA κ B g (cq) (by omega) h0 k0 type) (cwV 1 hts gX0_isSame_X0_sizeOf rfl rfl rfl (by decide +kernel) ⟨Nat.le_of_ble_eq_true rfl, Nat.le_of_ble_eq_true rfl⟩) (he_preV (q := (RX0, TX0, 2)) [.int type] hK hN hW hJ k0 (hk_t320 (by omega)) rfl) rfl rfl hl.1 rfl (lv_room (Nat.le_of_ble_eq_true rfl)) dX0_isSame_2 ⟨Nat.zero_le _, Nat.zero_le _⟩) hJ (fun x2 g1 H locs hp hJ => ?_)
  obtain ⟨rfl, f3⟩ := hp
  refine lv_iload hx hb dX0_isSame_5 (lv_at hl 4 rfl) ?_
  refine hq_icmp_ne (tgt := 23) hx hb dX0_isSame_7 (by decide) (fun c4 => ?_) (fun c4 => ?_)
  · refine hq_iconst hx hb dX0_isSame_23 (by decide) (by decide) (fun z5 ez5 => ?_)
    exact he_zret hx hb hK hN hW hlocks hJ hr (by omega) ⟨rfl, by omega, ⟨fun h9 => absurd h9 (by omega), fun h9 => absurd h9.1 (by omega)⟩⟩ dX0_isSame_24
  · refine lv_iload_n hx hb dX0_isSame_10 rfl (lv_at hl 3 rfl) ?_
    refine hq_if_lt (tgt := 23) hx hb dX0_isSame_11 (by decide) (fun c6 => ?_) (fun c6 => ?_)
    · refine hq_iconst hx hb dX0_isSame_23 (by decide) (by decide) (fun z7 ez7 => ?_)
      exact he_zret hx hb hK hN hW hlocks hJ hr (by omega) ⟨rfl, by omega, ⟨fun h9 => absurd h9 (by omega), fun h9 => absurd h9.1 (by omega)⟩⟩ dX0_isSame_24
    · refine lv_iload_n hx hb dX0_isSame_14 rfl (lv_at hl 3 rfl) ?_
      refine lv_aload_n hx hb dX0_isSame_15 rfl (lv_at hl 2 rfl) ?_
      refine he_alen (q := (dA 1, .byte)) (ty := 1) (n := nf) hx hb hK hJ kfrm hkf rfl rfl (by omega) dX0_isSame_16 (fun x8 ex8 => ?_)
      refine lv_iload hx hb dX0_isSame_17 (lv_at hl 4 rfl) ?_
      refine hq_isub hx hb dX0_isSame_19 (by omega) (by omega) (fun x9 ex9 => ?_)
      refine hq_icmp_le (tgt := 25) hx hb dX0_isSame_20 (by decide) (fun c10 => ?_) (fun c10 => ?_)
      · refine lv_iload_n hx hb dX0_isSame_25 rfl (lv_at hl 1 rfl) ?_
        refine he_calli (va_runS (As := [.int type]) (rest := []) ⟨hx, hb, hml, hown, hts⟩ (e_X0_startOf l dC dI dA κ B g type (by omega) (by omega)) (va_cwS 1 hts gX0_isSame_X0_startOf rfl rfl rfl (by decide +kernel) ⟨Nat.le_of_ble_eq_true rfl, Nat.le_of_ble_eq_true rfl⟩) (he_preS [.int type] hK hN hW hJ) rfl rfl hl.1 rfl (lv_room (Nat.le_of_ble_eq_true rfl)) dX0_isSame_26 ⟨Nat.zero_le _, Nat.zero_le _⟩) hJ (fun x12 g11 H locs hp hJ => ?_)
        obtain ⟨rfl, f13⟩ := hp
        refine lv_istore (lv' := [(5, .int x12), (0, .ref h0), (1, .int type), (2, .ref frm), (3, .int start), (4, .int size)]) hx hb dX0_isSame_29 hl (by decide) rfl (fun ls hl => ?_)
        refine hq_iconst hx hb dX0_isSame_31 (by decide) (by decide) (fun z14 ez14 => ?_)
        refine lv_istore (lv' := [(6, .int z14), (5, .int x12), (0, .ref h0), (1, .int type), (2, .ref frm), (3, .int start), (4, .int size)]) hx hb dX0_isSame_32 hl (by decide) rfl (fun ls hl => ?_)
        have lp16 : ∀ (nlp16 : Nat) (v15 : Int32) (H : Heap) (locs : List Loc) (ls : Array Slot), (0 ≤ v15.toInt) → (v15.toInt ≤ 60) → (∀ k : Nat, (k : Int) < v15.toInt → g (360 + cq) (hc_st type.toInt.toNat + k) = g kf (start.toInt.toNat + k)) → (61 - v15.toInt < (nlp16 : Int)) → he_J dC dI dA κ B g s.heap H locs → lv_has ls 7 [(0, .ref h0), (1, .int type), (2, .ref frm), (3, .int start), (4, .int size), (5, .int x12), (6, .int v15)] → W p l e (headSpec wsX0_isSame ({ frames := 1, cells := 0, slots := 0, locals := 21 } : Room)).room s m ([Value.ref h0, Value.int type, Value.ref frm, Value.int start, Value.int size] : List Value).toArray below meth c H locs 0 0 (MQ below (he_Qi dC dI dA κ B (fun r u => g = u ∧ (r.toInt = 0 ∨ r.toInt = 1) ∧ (r.toInt = 1 ↔ he_sm g cq type.toInt.toNat kf start.toInt.toNat size.toInt))) ([Value.ref h0, Value.int type, Value.ref frm, Value.int start, Value.int size] : List Value).toArray s 0 0 (hp_A B)) (F0 m 34 ls []) := by
          intro nlp16
          induction nlp16 with
          | zero => intro v15 H locs ls iv18 iv19 iv20 hm17 hJ hl; exact absurd hm17 (by omega)
          | succ nlp16 ihlp16 =>
            intro v15 H locs ls iv18 iv19 iv20 hm17 hJ hl
            refine lv_iload hx hb dX0_isSame_34 (lv_at hl 6 rfl) ?_
            refine lv_iload hx hb dX0_isSame_36 (lv_at hl 4 rfl) ?_
            refine hq_icmp_ge (tgt := 68) hx hb dX0_isSame_38 (by decide) (fun c21 => ?_) (fun c21 => ?_)
            · refine hq_iconst hx hb dX0_isSame_68 (by decide) (by decide) (fun z22 ez22 => ?_)
              exact he_zret hx hb hK hN hW hlocks hJ hr (by omega) ⟨rfl, by omega, ⟨fun _ => ⟨by omega, fun k hk => iv20 k (by omega)⟩, fun _ => by omega⟩⟩ dX0_isSame_69
            · refine lv_aload_n hx hb dX0_isSame_41 rfl (lv_at hl 0 rfl) ?_
              refine he_getr (C := RX0) (T := TX0) (N := 2) (ci := 0) (kd := 320 + cq) hx hb hts iX0_isSame_X0 hown hK hJ k0 (hk_t320 (by omega)) rfl 1 (by decide) (hts (.fieldLink RX0 15 "NeighborBook$Contents" "bytes" "[B") (List.mem_of_getElem? (i := 1) rfl)) (fun _ h9 => h9) (he_s320 (by omega) 1) dX0_isSame_42 (fun b23 kb23 => ?_)
              refine lv_iload hx hb dX0_isSame_45 (lv_at hl 5 rfl) ?_
              refine lv_iload hx hb dX0_isSame_47 (lv_at hl 6 rfl) ?_
              refine hq_iadd hx hb dX0_isSame_49 (by omega) (by omega) (fun x24 ex24 => ?_)
              refine he_bald (kd := 360 + cq) (n := 420) hx hb hK hJ kb23 (hk_t360 (by omega)) (by omega) (by omega) (sp := (11, 0)) (he_s360 (by omega) _) rfl dX0_isSame_50 (fun x25 ex25 => ?_)
              have ex25 : x25.toInt = g (360 + cq) x24.toInt.toNat ∧ -128 ≤ x25.toInt ∧ x25.toInt ≤ 127 := ex25
              refine lv_aload_n hx hb dX0_isSame_51 rfl (lv_at hl 2 rfl) ?_
              refine lv_iload_n hx hb dX0_isSame_52 rfl (lv_at hl 3 rfl) ?_
              refine lv_iload hx hb dX0_isSame_53 (lv_at hl 6 rfl) ?_
              refine hq_iadd hx hb dX0_isSame_55 (by omega) (by omega) (fun x26 ex26 => ?_)
              refine he_bald (kd := kf) (n := nf) hx hb hK hJ kfrm hkf (by omega) (by omega) (sp := (11, 0)) (hsf _) rfl dX0_isSame_56 (fun x27 ex27 => ?_)
              have ex27 : x27.toInt = g kf x26.toInt.toNat ∧ -128 ≤ x27.toInt ∧ x27.toInt ≤ 127 := ex27
              have hs5 : hc_st type.toInt.toNat + v15.toInt.toNat = x24.toInt.toNat := by unfold hc_st; split <;> omega
              have hs6 : start.toInt.toNat + v15.toInt.toNat = x26.toInt.toNat := by omega
              refine hq_icmp_eq (tgt := 62) hx hb dX0_isSame_57 (by decide) (fun c28 => ?_) (fun c28 => ?_)
              · refine hq_iinc (k := 6) (lv' := fun (z9 : Int32) => [(6, .int z9), (0, .ref h0), (1, .int type), (2, .ref frm), (3, .int start), (4, .int size), (5, .int x12)]) hx hb dX0_isSame_62 hl rfl (by decide) (by decide) (by omega) (by omega) (by decide) (fun _ => rfl) (fun x29 ls ex29 hl => ?_)
                have hl : lv_has ls 7 [(6, .int x29), (0, .ref h0), (1, .int type), (2, .ref frm), (3, .int start), (4, .int size), (5, .int x12)] := hl
                refine lv_goto (tgt := 34) hx hb dX0_isSame_65 (by decide) ?_
                exact ihlp16 x29 _ _ ls (by omega) (by omega) (fun k hk => by by_cases h9 : k = v15.toInt.toNat; (rw [h9, hs5, hs6]; omega); (exact iv20 k (by omega))) (by omega) hJ (lv_sub hl [1, 2, 3, 4, 5, 6, 0] rfl)
              · refine hq_iconst hx hb dX0_isSame_60 (by decide) (by decide) (fun z30 ez30 => ?_)
                exact he_zret hx hb hK hN hW hlocks hJ hr (by omega) ⟨rfl, by omega, ⟨fun h9 => absurd h9 (by omega), fun h9 => absurd (h9.2 v15.toInt.toNat (by omega)) (by rw [hs5, hs6]; omega)⟩⟩ dX0_isSame_61
        exact lp16 ((61 - z14.toInt).toNat + 1) z14 _ _ ls (by omega) (by omega) (fun k hk => absurd hk (by omega)) (by omega) hJ (lv_sub hl [2, 3, 4, 5, 6, 1, 0] rfl)
      · refine hq_iconst hx hb dX0_isSame_23 (by decide) (by decide) (fun z31 ez31 => ?_)
        exact he_zret hx hb hK hN hW hlocks hJ hr (by omega) ⟨rfl, by omega, ⟨fun h9 => absurd h9 (by omega), fun h9 => absurd h9.1 (by omega)⟩⟩ dX0_isSame_24
theorem iX0_isSameStation_X0 : ∀ w ∈ wsX00, w ∈ wsX0_isSameStation := fun _ h => List.mem_cons_of_mem _ (List.mem_append_right _ h)
set_option maxRecDepth 100000 in
set_option maxHeartbeats 4000000 in
theorem e_X0_isSameStation (l : Launch) (dC : Nat → ClassId) (dI : Nat → Nat → Nat) (dA : Nat → ClassId) (κ : Nat → Nat) (B : Nat) (g : Nat → Nat → Int) (cq : Nat) (hcq : cq < 14) (cd : Nat) (hcd : cd < 14) (h0 : Nat) (k0 : κ h0 = 320 + cq) (other : Nat) (kother : κ other = 320 + cd) : Met l yX0_isSameStation wsX0_isSameStation ({ frames := 2, cells := 0, slots := 0, locals := 47 } : Room) (he_Pre dC dI dA κ B g [Value.ref h0, Value.ref other]) (he_Qi dC dI dA κ B (fun r u => g = u ∧ (r.toInt = 0 ∨ r.toInt = 1) ∧ (r.toInt = 1 ↔ hc_same (hc_con g cq) (hc_con g cd)))) 0 0 (hp_A B) := by
  refine Met.ofW (cc := cX0_isSameStation) (maxL := 2) (ret := (some .boolean)) (by decide) rfl ?_
  intro p e s m args below meth c s₁ Bd hml hv
  obtain ⟨rfl, hK, hN, hW, hF⟩ := hv
  have hx := Bd.exec
  have hb := Bd.bytes
  have hr := Bd.returns
  have hts := atoms_spec (ws := wsX0_isSameStation) Bd.pre
  have hown : s.vm.findClass RX0 = some m.cls := findClass_of_methodNamed Bd.named
  have hlocks := Bd.notSynchronized
  have hJ : he_J dC dI dA κ B g s.heap s.heap [] := ⟨hF, va_S.rf⟩
  have hl := lv_entry ([Value.ref h0, Value.ref other]) (n := 2) (Nat.le_of_ble_eq_true rfl)
  rw [lg_entry_eq]
  generalize (lg_sl ([Value.ref h0, Value.ref other]) ++ List.replicate (2 - (lg_sl ([Value.ref h0, Value.ref other])).length) Slot.unset).toArray = ls at hl ⊢
  have hl : lv_has ls 2 [(0, .ref h0), (1, .ref other)] := hl
  refine lv_aload_n hx hb dX0_isSameStation_0 rfl (lv_at hl 0 rfl) ?_
  refine hq_iconst hx hb dX0_isSameStation_1 (by decide) (by decide) (fun z1 ez1 => ?_)
  refine lv_aload_n hx hb dX0_isSameStation_2 rfl (lv_at hl 1 rfl) ?_
  refine he_getr (C := RX0) (T := TX0) (N := 2) (ci := 0) (kd := 320 + cd) hx hb hts iX0_isSameStation_X0 hown hK hJ kother (hk_t320 (by omega)) rfl 1 (by decide) (hts (.fieldLink RX0 15 "NeighborBook$Contents" "bytes" "[B") (List.mem_of_getElem? (i := 1) rfl)) (fun _ h9 => h9) (he_s320 (by omega) 1) dX0_isSameStation_3 (fun b2 kb2 => ?_)
  refine hq_iconst hx hb dX0_isSameStation_6 (by decide) (by decide) (fun z3 ez3 => ?_)
  refine he_calli (va_runS (As := [.int z3]) (rest := [.ref b2, .int z1, .ref h0]) ⟨hx, hb, hml, hown, hts⟩ (e_X0_startOf l dC dI dA κ B g z3 (by omega) (by omega)) (va_cwS 1 hts gX0_isSameStation_X0_startOf rfl rfl rfl (by decide +kernel) ⟨Nat.le_of_ble_eq_true rfl, Nat.le_of_ble_eq_true rfl⟩) (he_preS [.int z3] hK hN hW hJ) rfl rfl hl.1 rfl (lv_room (Nat.le_of_ble_eq_true rfl)) dX0_isSameStation_7 ⟨Nat.zero_le _, Nat.zero_le _⟩) hJ (fun x5 g4 H locs hp hJ => ?_)
  obtain ⟨rfl, f6⟩ := hp
  refine lv_aload_n hx hb dX0_isSameStation_10 rfl (lv_at hl 1 rfl) ?_
  refine hq_iconst hx hb dX0_isSameStation_11 (by decide) (by decide) (fun z7 ez7 => ?_)
  refine he_calli (va_runV (As := [.int z7]) (rest := [.int x5, .ref b2, .int z1, .ref h0]) ⟨hx, hb, hml, hown, hts⟩ (e_X0_sizeOf l dC dI dA κ B g (cd) (by omega) other kother z7) (cwV 1 hts gX0_isSameStation_X0_sizeOf rfl rfl rfl (by decide +kernel) ⟨Nat.le_of_ble_eq_true rfl, Nat.le_of_ble_eq_true rfl⟩) (he_preV (q := (RX0, TX0, 2)) [.int z7] hK hN hW hJ kother (hk_t320 (by omega)) rfl) rfl rfl hl.1 rfl (lv_room (Nat.le_of_ble_eq_true rfl)) dX0_isSameStation_12 ⟨Nat.zero_le _, Nat.zero_le _⟩) hJ (fun x9 g8 H locs hp hJ => ?_)
  obtain ⟨rfl, f10⟩ := hp
  refine he_calli (va_runV (As := [.int z1, .ref b2, .int x5, .int x9]) (rest := []) ⟨hx, hb, hml, hown, hts⟩ (e_X0_isSame l dC dI dA κ B g (cq) (by omega) h0 k0 z1 b2 kb2 x5 x9 (hk_t360 (q := cd) (by omega)) (fun j => he_s360 (by omega) j) (by decide) (by omega) (by omega) (by omega) (by omega) (by omega)) (cwV 4 hts gX0_isSameStation_X0_isSame rfl rfl rfl (by decide +kernel) ⟨Nat.le_of_ble_eq_true rfl, Nat.le_of_ble_eq_true rfl⟩) (he_preV (q := (RX0, TX0, 2)) [.int z1, .ref b2, .int x5, .int x9] hK hN hW hJ k0 (hk_t320 (by omega)) rfl) rfl rfl hl.1 rfl (lv_room (Nat.le_of_ble_eq_true rfl)) dX0_isSameStation_15 ⟨Nat.zero_le _, Nat.zero_le _⟩) hJ (fun x12 g11 H locs hp hJ => ?_)
  obtain ⟨rfl, f13⟩ := hp
  have s1 : x12.toInt = 1 ↔ he_sm g cq 1 (360 + cd) 0 (g (340 + cd) 1) := by
    have h1 := f13.2
    have h2 := f10
    rw [show z7.toInt.toNat = 1 by omega] at h2
    rw [show z1.toInt.toNat = 1 by omega, show x5.toInt.toNat = 0 by omega, show x9.toInt = g (340 + cd) 1 by omega] at h1
    exact h1
  refine hq_if_eq (tgt := 46) hx hb dX0_isSameStation_18 (by decide) (fun c14 => ?_) (fun c14 => ?_)
  · refine hq_iconst hx hb dX0_isSameStation_46 (by decide) (by decide) (fun z15 ez15 => ?_)
    exact he_zret hx hb hK hN hW hlocks hJ hr (by omega) ⟨rfl, by omega, by first | exact ⟨fun _ => hc_same_iff.mpr ⟨s1.mp (by omega), s2.mp (by omega)⟩, fun _ => by omega⟩ | exact ⟨fun h9 => absurd h9 (by omega), fun h9 => absurd (s1.mpr (hc_same_iff.mp h9).1) (by omega)⟩ | exact ⟨fun h9 => absurd h9 (by omega), fun h9 => absurd (s2.mpr (hc_same_iff.mp h9).2) (by omega)⟩⟩ dX0_isSameStation_47
  · refine lv_aload_n hx hb dX0_isSameStation_21 rfl (lv_at hl 0 rfl) ?_
    refine hq_iconst hx hb dX0_isSameStation_22 (by decide) (by decide) (fun z16 ez16 => ?_)
    refine lv_aload_n hx hb dX0_isSameStation_23 rfl (lv_at hl 1 rfl) ?_
    refine he_getr (C := RX0) (T := TX0) (N := 2) (ci := 0) (kd := 320 + cd) hx hb hts iX0_isSameStation_X0 hown hK hJ kother (hk_t320 (by omega)) rfl 1 (by decide) (hts (.fieldLink RX0 15 "NeighborBook$Contents" "bytes" "[B") (List.mem_of_getElem? (i := 1) rfl)) (fun _ h9 => h9) (he_s320 (by omega) 1) dX0_isSameStation_24 (fun b17 kb17 => ?_)
    refine hq_iconst hx hb dX0_isSameStation_27 (by decide) (by decide) (fun z18 ez18 => ?_)
    refine he_calli (va_runS (As := [.int z18]) (rest := [.ref b17, .int z16, .ref h0]) ⟨hx, hb, hml, hown, hts⟩ (e_X0_startOf l dC dI dA κ B g z18 (by omega) (by omega)) (va_cwS 1 hts gX0_isSameStation_X0_startOf rfl rfl rfl (by decide +kernel) ⟨Nat.le_of_ble_eq_true rfl, Nat.le_of_ble_eq_true rfl⟩) (he_preS [.int z18] hK hN hW hJ) rfl rfl hl.1 rfl (lv_room (Nat.le_of_ble_eq_true rfl)) dX0_isSameStation_28 ⟨Nat.zero_le _, Nat.zero_le _⟩) hJ (fun x20 g19 H locs hp hJ => ?_)
    obtain ⟨rfl, f21⟩ := hp
    refine lv_aload_n hx hb dX0_isSameStation_31 rfl (lv_at hl 1 rfl) ?_
    refine hq_iconst hx hb dX0_isSameStation_32 (by decide) (by decide) (fun z22 ez22 => ?_)
    refine he_calli (va_runV (As := [.int z22]) (rest := [.int x20, .ref b17, .int z16, .ref h0]) ⟨hx, hb, hml, hown, hts⟩ (e_X0_sizeOf l dC dI dA κ B g (cd) (by omega) other kother z22) (cwV 1 hts gX0_isSameStation_X0_sizeOf rfl rfl rfl (by decide +kernel) ⟨Nat.le_of_ble_eq_true rfl, Nat.le_of_ble_eq_true rfl⟩) (he_preV (q := (RX0, TX0, 2)) [.int z22] hK hN hW hJ kother (hk_t320 (by omega)) rfl) rfl rfl hl.1 rfl (lv_room (Nat.le_of_ble_eq_true rfl)) dX0_isSameStation_33 ⟨Nat.zero_le _, Nat.zero_le _⟩) hJ (fun x24 g23 H locs hp hJ => ?_)
    obtain ⟨rfl, f25⟩ := hp
    refine he_calli (va_runV (As := [.int z16, .ref b17, .int x20, .int x24]) (rest := []) ⟨hx, hb, hml, hown, hts⟩ (e_X0_isSame l dC dI dA κ B g (cq) (by omega) h0 k0 z16 b17 kb17 x20 x24 (hk_t360 (q := cd) (by omega)) (fun j => he_s360 (by omega) j) (by decide) (by omega) (by omega) (by omega) (by omega) (by omega)) (cwV 4 hts gX0_isSameStation_X0_isSame rfl rfl rfl (by decide +kernel) ⟨Nat.le_of_ble_eq_true rfl, Nat.le_of_ble_eq_true rfl⟩) (he_preV (q := (RX0, TX0, 2)) [.int z16, .ref b17, .int x20, .int x24] hK hN hW hJ k0 (hk_t320 (by omega)) rfl) rfl rfl hl.1 rfl (lv_room (Nat.le_of_ble_eq_true rfl)) dX0_isSameStation_36 ⟨Nat.zero_le _, Nat.zero_le _⟩) hJ (fun x27 g26 H locs hp hJ => ?_)
    obtain ⟨rfl, f28⟩ := hp
    have s2 : x27.toInt = 1 ↔ he_sm g cq 2 (360 + cd) 60 (g (340 + cd) 2) := by
      have h1 := f28.2
      have h2 := f25
      rw [show z22.toInt.toNat = 2 by omega] at h2
      rw [show z16.toInt.toNat = 2 by omega, show x20.toInt.toNat = 60 by omega, show x24.toInt = g (340 + cd) 2 by omega] at h1
      exact h1
    refine hq_if_eq (tgt := 46) hx hb dX0_isSameStation_39 (by decide) (fun c29 => ?_) (fun c29 => ?_)
    · refine hq_iconst hx hb dX0_isSameStation_46 (by decide) (by decide) (fun z30 ez30 => ?_)
      exact he_zret hx hb hK hN hW hlocks hJ hr (by omega) ⟨rfl, by omega, by first | exact ⟨fun _ => hc_same_iff.mpr ⟨s1.mp (by omega), s2.mp (by omega)⟩, fun _ => by omega⟩ | exact ⟨fun h9 => absurd h9 (by omega), fun h9 => absurd (s1.mpr (hc_same_iff.mp h9).1) (by omega)⟩ | exact ⟨fun h9 => absurd h9 (by omega), fun h9 => absurd (s2.mpr (hc_same_iff.mp h9).2) (by omega)⟩⟩ dX0_isSameStation_47
    · refine hq_iconst hx hb dX0_isSameStation_42 (by decide) (by decide) (fun z31 ez31 => ?_)
      refine lv_goto (tgt := 47) hx hb dX0_isSameStation_43 (by decide) ?_
      exact he_zret hx hb hK hN hW hlocks hJ hr (by omega) ⟨rfl, by omega, by first | exact ⟨fun _ => hc_same_iff.mpr ⟨s1.mp (by omega), s2.mp (by omega)⟩, fun _ => by omega⟩ | exact ⟨fun h9 => absurd h9 (by omega), fun h9 => absurd (s1.mpr (hc_same_iff.mp h9).1) (by omega)⟩ | exact ⟨fun h9 => absurd h9 (by omega), fun h9 => absurd (s2.mpr (hc_same_iff.mp h9).2) (by omega)⟩⟩ dX0_isSameStation_47
theorem iX0_typeBits_X0 : ∀ w ∈ wsX00, w ∈ wsX0_typeBits := fun _ h => List.mem_cons_of_mem _ (List.mem_append_right _ h)
set_option maxRecDepth 100000 in
set_option maxHeartbeats 4000000 in
theorem e_X0_typeBits (l : Launch) (dC : Nat → ClassId) (dI : Nat → Nat → Nat) (dA : Nat → ClassId) (κ : Nat → Nat) (B : Nat) (g : Nat → Nat → Int) (cq : Nat) (hcq : cq < 14) (h0 : Nat) (k0 : κ h0 = 320 + cq) : Met l yX0_typeBits wsX0_typeBits ({ frames := 2, cells := 0, slots := 0, locals := 42 } : Room) (he_Pre dC dI dA κ B g [Value.ref h0]) (he_Qi dC dI dA κ B (fun r u => g = u)) 0 0 (hp_A B) := by
  refine Met.ofW (cc := cX0_typeBits) (maxL := 3) (ret := (some .int)) (by decide) rfl ?_
  intro p e s m args below meth c s₁ Bd hml hv
  obtain ⟨rfl, hK, hN, hW, hF⟩ := hv
  have hx := Bd.exec
  have hb := Bd.bytes
  have hr := Bd.returns
  have hts := atoms_spec (ws := wsX0_typeBits) Bd.pre
  have hown : s.vm.findClass RX0 = some m.cls := findClass_of_methodNamed Bd.named
  have hlocks := Bd.notSynchronized
  have hJ : he_J dC dI dA κ B g s.heap s.heap [] := ⟨hF, va_S.rf⟩
  have hl := lv_entry ([Value.ref h0]) (n := 3) (Nat.le_of_ble_eq_true rfl)
  rw [lg_entry_eq]
  generalize (lg_sl ([Value.ref h0]) ++ List.replicate (3 - (lg_sl ([Value.ref h0])).length) Slot.unset).toArray = ls at hl ⊢
  have hl : lv_has ls 3 [(0, .ref h0)] := hl
  refine hq_iconst hx hb dX0_typeBits_0 (by decide) (by decide) (fun z1 ez1 => ?_)
  refine lv_istore_n (lv' := [(1, .int z1), (0, .ref h0)]) hx hb dX0_typeBits_1 rfl hl (by decide) rfl (fun ls hl => ?_)
  refine hq_iconst hx hb dX0_typeBits_2 (by decide) (by decide) (fun z2 ez2 => ?_)
  refine lv_istore_n (lv' := [(2, .int z2), (1, .int z1), (0, .ref h0)]) hx hb dX0_typeBits_3 rfl hl (by decide) rfl (fun ls hl => ?_)
  have lp5 : ∀ (nlp5 : Nat) (v3 : Int32) (v4 : Int32) (H : Heap) (locs : List Loc) (ls : Array Slot), (1 ≤ v4.toInt) → (v4.toInt ≤ 9) → (10 - v4.toInt < (nlp5 : Int)) → he_J dC dI dA κ B g s.heap H locs → lv_has ls 3 [(0, .ref h0), (1, .int v3), (2, .int v4)] → W p l e (headSpec wsX0_typeBits ({ frames := 2, cells := 0, slots := 0, locals := 42 } : Room)).room s m ([Value.ref h0] : List Value).toArray below meth c H locs 0 0 (MQ below (he_Qi dC dI dA κ B (fun r u => g = u)) ([Value.ref h0] : List Value).toArray s 0 0 (hp_A B)) (F0 m 4 ls []) := by
    intro nlp5
    induction nlp5 with
    | zero => intro v3 v4 H locs ls iv7 iv8 hm6 hJ hl; exact absurd hm6 (by omega)
    | succ nlp5 ihlp5 =>
      intro v3 v4 H locs ls iv7 iv8 hm6 hJ hl
      refine lv_iload_n hx hb dX0_typeBits_4 rfl (lv_at hl 2 rfl) ?_
      refine hq_bipush hx hb dX0_typeBits_5 (by decide) (fun z9 ez9 => ?_)
      refine hq_icmp_gt (tgt := 30) hx hb dX0_typeBits_7 (by decide) (fun c10 => ?_) (fun c10 => ?_)
      · refine lv_iload_n hx hb dX0_typeBits_30 rfl (lv_at hl 1 rfl) ?_
        exact he_iret hx hb hK hN hW hlocks hJ hr rfl dX0_typeBits_31
      · refine lv_aload_n hx hb dX0_typeBits_10 rfl (lv_at hl 0 rfl) ?_
        refine lv_iload_n hx hb dX0_typeBits_11 rfl (lv_at hl 2 rfl) ?_
        refine he_calli (va_runV (As := [.int v4]) (rest := []) ⟨hx, hb, hml, hown, hts⟩ (e_X0_has l dC dI dA κ B g (cq) (by omega) h0 k0 v4) (cwV 1 hts gX0_typeBits_X0_has rfl rfl rfl (by decide +kernel) ⟨Nat.le_of_ble_eq_true rfl, Nat.le_of_ble_eq_true rfl⟩) (he_preV (q := (RX0, TX0, 2)) [.int v4] hK hN hW hJ k0 (hk_t320 (by omega)) rfl) rfl rfl hl.1 rfl (lv_room (Nat.le_of_ble_eq_true rfl)) dX0_typeBits_12 ⟨Nat.zero_le _, Nat.zero_le _⟩) hJ (fun x12 g11 H locs hp hJ => ?_)
        obtain ⟨rfl, f13⟩ := hp
        refine hq_if_eq (tgt := 24) hx hb dX0_typeBits_15 (by decide) (fun c14 => ?_) (fun c14 => ?_)
        · refine hq_iinc (k := 2) (lv' := fun (z9 : Int32) => [(2, .int z9), (0, .ref h0), (1, .int v3)]) hx hb dX0_typeBits_24 hl rfl (by decide) (by decide) (by omega) (by omega) (by decide) (fun _ => rfl) (fun x15 ls ex15 hl => ?_)
          have hl : lv_has ls 3 [(2, .int x15), (0, .ref h0), (1, .int v3)] := hl
          refine lv_goto (tgt := 4) hx hb dX0_typeBits_27 (by decide) ?_
          exact ihlp5 v3 x15 _ _ ls (by omega) (by omega) (by omega) hJ (lv_sub hl [1, 2, 0] rfl)
        · refine lv_iload_n hx hb dX0_typeBits_18 rfl (lv_at hl 1 rfl) ?_
          refine hq_iconst hx hb dX0_typeBits_19 (by decide) (by decide) (fun z16 ez16 => ?_)
          refine lv_iload_n hx hb dX0_typeBits_20 rfl (lv_at hl 2 rfl) ?_
          refine hq_ishlU hx hb dX0_typeBits_21 (fun x17 => ?_)
          refine hq_iorU hx hb dX0_typeBits_22 (fun x18 => ?_)
          refine lv_istore_n (lv' := [(1, .int x18), (0, .ref h0), (2, .int v4)]) hx hb dX0_typeBits_23 rfl hl (by decide) rfl (fun ls hl => ?_)
          refine hq_iinc (k := 2) (lv' := fun (z9 : Int32) => [(2, .int z9), (1, .int x18), (0, .ref h0)]) hx hb dX0_typeBits_24 hl rfl (by decide) (by decide) (by omega) (by omega) (by decide) (fun _ => rfl) (fun x19 ls ex19 hl => ?_)
          have hl : lv_has ls 3 [(2, .int x19), (1, .int x18), (0, .ref h0)] := hl
          refine lv_goto (tgt := 4) hx hb dX0_typeBits_27 (by decide) ?_
          exact ihlp5 x18 x19 _ _ ls (by omega) (by omega) (by omega) hJ (lv_sub hl [2, 1, 0] rfl)
  exact lp5 ((10 - z2.toInt).toNat + 1) z1 z2 _ _ ls (by omega) (by omega) (by omega) hJ (lv_sub hl [2, 1, 0] rfl)
set_option maxRecDepth 100000 in
set_option maxHeartbeats 4000000 in
theorem e_X0_keep (l : Launch) (dC : Nat → ClassId) (dI : Nat → Nat → Nat) (dA : Nat → ClassId) (κ : Nat → Nat) (B : Nat) (g : Nat → Nat → Int) (cq : Nat) (hcq : cq < 14) (h0 : Nat) (k0 : κ h0 = 320 + cq) (type : Int32) (frm : Nat) (kfrm : κ frm = 12) (start : Int32) (size : Int32) : Met l yX0_keep wsX0_keep ({ frames := 2, cells := 0, slots := 0, locals := 40 } : Room) (he_Pre dC dI dA κ B g [Value.ref h0, Value.int type, Value.ref frm, Value.int start, Value.int size]) (he_Qv dC dI dA κ B (fun u => hg_Q (fun a b => (a = 340 + cq ∧ b = type.toInt.toNat) ∨ a = 360 + cq) g u ∧ ((((type.toInt = 1 ∨ type.toInt = 2 ∨ (4 ≤ type.toInt ∧ type.toInt ≤ 8)) ∧ 0 ≤ size.toInt ∧ size.toInt ≤ 60 ∧ 0 ≤ start.toInt ∧ start.toInt + size.toInt ≤ 700) ∧ u (340 + cq) type.toInt.toNat = size.toInt ∧ (∀ k : Nat, (k : Int) < size.toInt → u (360 + cq) (hc_st type.toInt.toNat + k) = g 12 (start.toInt.toNat + k)) ∧ ∀ b : Nat, (b < hc_st type.toInt.toNat ∨ hc_st type.toInt.toNat + size.toInt.toNat ≤ b) → u (360 + cq) b = g (360 + cq) b) ∨ (¬ ((type.toInt = 1 ∨ type.toInt = 2 ∨ (4 ≤ type.toInt ∧ type.toInt ≤ 8)) ∧ 0 ≤ size.toInt ∧ size.toInt ≤ 60 ∧ 0 ≤ start.toInt ∧ start.toInt + size.toInt ≤ 700) ∧ g = u)))) 0 0 (hp_A B) := by
  refine Met.ofW (cc := cX0_keep) (maxL := 5) (ret := none) (by decide) rfl ?_
  intro p e s m args below meth c s₁ Bd hml hv
  obtain ⟨rfl, hK, hN, hW, hF⟩ := hv
  have hx := Bd.exec
  have hb := Bd.bytes
  have hr := Bd.returns
  have hts := atoms_spec (ws := wsX0_keep) Bd.pre
  have hown : s.vm.findClass RX0 = some m.cls := findClass_of_methodNamed Bd.named
  have hlocks := Bd.notSynchronized
  have hJ : he_J dC dI dA κ B g s.heap s.heap [] := ⟨hF, va_S.rf⟩
  have hl := lv_entry ([Value.ref h0, Value.int type, Value.ref frm, Value.int start, Value.int size]) (n := 5) (Nat.le_of_ble_eq_true rfl)
  rw [lg_entry_eq]
  generalize (lg_sl ([Value.ref h0, Value.int type, Value.ref frm, Value.int start, Value.int size]) ++ List.replicate (5 - (lg_sl ([Value.ref h0, Value.int type, Value.ref frm, Value.int start, Value.int size])).length) Slot.unset).toArray = ls at hl ⊢
  have hl : lv_has ls 5 [(0, .ref h0), (1, .int type), (2, .ref frm), (3, .int start), (4, .int size)] := hl
  refine lv_iload_n hx hb dX0_keep_0 rfl (lv_at hl 1 rfl) ?_
  refine he_calli (va_runS (As := [.int type]) (rest := []) ⟨hx, hb, hml, hown, hts⟩ (e_X0_isKept l dC dI dA κ B g type) (va_cwS 1 hts gX0_keep_X0_isKept rfl rfl rfl (by decide +kernel) ⟨Nat.le_of_ble_eq_true rfl, Nat.le_of_ble_eq_true rfl⟩) (he_preS [.int type] hK hN hW hJ) rfl rfl hl.1 rfl (lv_room (Nat.le_of_ble_eq_true rfl)) dX0_keep_1 ⟨Nat.zero_le _, Nat.zero_le _⟩) hJ (fun x2 g1 H locs hp hJ => ?_)
  obtain ⟨rfl, f3⟩ := hp
  refine hq_if_eq (tgt := 55) hx hb dX0_keep_4 (by decide) (fun c4 => ?_) (fun c4 => ?_)
  · exact he_vret hx hb hK hN hW hlocks hJ hr ⟨hg_Q.rf, Or.inr ⟨by omega, rfl⟩⟩ dX0_keep_55
  · refine lv_iload hx hb dX0_keep_7 (lv_at hl 4 rfl) ?_
    refine hq_if_lt (tgt := 55) hx hb dX0_keep_9 (by decide) (fun c5 => ?_) (fun c5 => ?_)
    · exact he_vret hx hb hK hN hW hlocks hJ hr ⟨hg_Q.rf, Or.inr ⟨by omega, rfl⟩⟩ dX0_keep_55
    · refine lv_iload hx hb dX0_keep_12 (lv_at hl 4 rfl) ?_
      refine hq_bipush hx hb dX0_keep_14 (by decide) (fun z6 ez6 => ?_)
      refine hq_icmp_gt (tgt := 55) hx hb dX0_keep_16 (by decide) (fun c7 => ?_) (fun c7 => ?_)
      · exact he_vret hx hb hK hN hW hlocks hJ hr ⟨hg_Q.rf, Or.inr ⟨by omega, rfl⟩⟩ dX0_keep_55
      · refine lv_iload_n hx hb dX0_keep_19 rfl (lv_at hl 3 rfl) ?_
        refine hq_if_lt (tgt := 55) hx hb dX0_keep_20 (by decide) (fun c8 => ?_) (fun c8 => ?_)
        · exact he_vret hx hb hK hN hW hlocks hJ hr ⟨hg_Q.rf, Or.inr ⟨by omega, rfl⟩⟩ dX0_keep_55
        · refine lv_iload_n hx hb dX0_keep_23 rfl (lv_at hl 3 rfl) ?_
          refine lv_aload_n hx hb dX0_keep_24 rfl (lv_at hl 2 rfl) ?_
          refine he_alen (q := (dA 1, .byte)) (ty := 1) (n := 700) hx hb hK hJ kfrm rfl rfl rfl (by decide) dX0_keep_25 (fun x9 ex9 => ?_)
          have ex9 : x9.toInt = 700 := ex9
          refine lv_iload hx hb dX0_keep_26 (lv_at hl 4 rfl) ?_
          refine hq_isub hx hb dX0_keep_28 (by omega) (by omega) (fun x10 ex10 => ?_)
          refine hq_icmp_gt (tgt := 55) hx hb dX0_keep_29 (by decide) (fun c11 => ?_) (fun c11 => ?_)
          · exact he_vret hx hb hK hN hW hlocks hJ hr ⟨hg_Q.rf, Or.inr ⟨by omega, rfl⟩⟩ dX0_keep_55
          · refine lv_aload_n hx hb dX0_keep_32 rfl (lv_at hl 2 rfl) ?_
            refine lv_iload_n hx hb dX0_keep_33 rfl (lv_at hl 3 rfl) ?_
            refine lv_aload_n hx hb dX0_keep_34 rfl (lv_at hl 0 rfl) ?_
            refine he_getr (C := RX0) (T := TX0) (N := 2) (ci := 0) (kd := 320 + cq) hx hb hts iX0_keep_X0 hown hK hJ k0 (hk_t320 (by omega)) rfl 1 (by decide) (hts (.fieldLink RX0 15 "NeighborBook$Contents" "bytes" "[B") (List.mem_of_getElem? (i := 1) rfl)) (fun _ h9 => h9) (he_s320 (by omega) 1) dX0_keep_35 (fun b12 kb12 => ?_)
            refine lv_iload_n hx hb dX0_keep_38 rfl (lv_at hl 1 rfl) ?_
            refine he_calli (va_runS (As := [.int type]) (rest := [.ref b12, .int start, .ref frm]) ⟨hx, hb, hml, hown, hts⟩ (e_X0_startOf l dC dI dA κ B g type (by omega) (by omega)) (va_cwS 1 hts gX0_keep_X0_startOf rfl rfl rfl (by decide +kernel) ⟨Nat.le_of_ble_eq_true rfl, Nat.le_of_ble_eq_true rfl⟩) (he_preS [.int type] hK hN hW hJ) rfl rfl hl.1 rfl (lv_room (Nat.le_of_ble_eq_true rfl)) dX0_keep_39 ⟨Nat.zero_le _, Nat.zero_le _⟩) hJ (fun x14 g13 H locs hp hJ => ?_)
            obtain ⟨rfl, f15⟩ := hp
            refine lv_iload hx hb dX0_keep_42 (lv_at hl 4 rfl) ?_
            have hst : hc_st type.toInt.toNat = x14.toInt.toNat := by unfold hc_st; split <;> omega
            refine he_copye (kd := 360 + cq) (ks := 12) (ns := 700) hx hb (hml.trans hl.1.symm) hown (hts (.methodLink RX0 39 arraycopyName) (List.mem_of_getElem? (i := 2) rfl)) (hts (.native arraycopyName) (List.mem_of_getElem? (i := 3) rfl)) (hts (.static arraycopyName) (List.mem_of_getElem? (i := 4) rfl)) (hts (.initialized "java/lang/System") (List.mem_of_getElem? (i := 5) rfl)) hK hW hJ kfrm rfl (fun _ => rfl) kb12 (hk_t360 (by omega)) (he_s360 (by omega)) (hk_x360 (by omega)) (by omega) (by omega) (by omega) (by omega) (by omega) (by omega) (Nat.le_of_ble_eq_true rfl) (Nat.le_of_ble_eq_true rfl) dX0_keep_44 (fun g16 H locs eg16 ng16 hJ => ?_)
            have P17 : hg_Q (fun a b => (a = 340 + cq ∧ b = type.toInt.toNat) ∨ a = 360 + cq) g g16 := hg_Q.tr hg_Q.rf (fun a b h9 => ng16 a b (fun h8 => h9 (show (a = 340 + cq ∧ b = type.toInt.toNat) ∨ a = 360 + cq from by omega)))
            refine lv_aload_n hx hb dX0_keep_47 rfl (lv_at hl 0 rfl) ?_
            refine he_getr (C := RX0) (T := TX0) (N := 2) (ci := 0) (kd := 320 + cq) hx hb hts iX0_keep_X0 hown hK hJ k0 (hk_t320 (by omega)) rfl 0 (by decide) (hts (.fieldLink RX0 9 "NeighborBook$Contents" "sizes" "[I") (List.mem_of_getElem? (i := 6) rfl)) (fun _ h9 => h9) (he_s320 (by omega) 0) dX0_keep_48 (fun b18 kb18 => ?_)
            refine lv_iload_n hx hb dX0_keep_51 rfl (lv_at hl 1 rfl) ?_
            refine lv_iload hx hb dX0_keep_52 (lv_at hl 4 rfl) ?_
            refine he_iastx (kd := 340 + cq) (n := 9) hx hb hK hJ kb18 (hk_t340 (by omega)) (by omega) (by omega) (by omega) hW (hk_x340 (by omega)) (he_s340 (q := cq) (by omega) _) (he13_n _) (he13_o (by omega) (by omega)) dX0_keep_54 (fun g19 H locs eg19 ng19 hJ => ?_)
            have eg19 : g19 (340 + cq) type.toInt.toNat = size.toInt := eg19
            have P20 : hg_Q (fun a b => (a = 340 + cq ∧ b = type.toInt.toNat) ∨ a = 360 + cq) g g19 := hg_Q.put P17 ng19 (show ((340 + cq) = 340 + cq ∧ type.toInt.toNat = type.toInt.toNat) ∨ (340 + cq) = 360 + cq from by omega)
            exact he_vret hx hb hK hN hW hlocks hJ hr ⟨P20, Or.inl ⟨by omega, eg19, fun k hk => by rw [ng19 (360 + cq) (hc_st type.toInt.toNat + k) (by omega), hst]; exact eg16 k hk, fun b hb => by rw [ng19 (360 + cq) b (by omega), ng16 (360 + cq) b (by omega)]⟩⟩ dX0_keep_55
