theorem iX7_forget_X7 : ∀ w ∈ wsX70, w ∈ wsX7_forget := fun _ h => List.mem_cons_of_mem _ (List.mem_append_right _ h)
set_option maxRecDepth 100000 in
set_option maxHeartbeats 4000000 in
theorem e_X7_forget (l : Launch) (dC : Nat → ClassId) (dI : Nat → Nat → Nat) (dA : Nat → ClassId) (κ : Nat → Nat) (B : Nat) (g : Nat → Nat → Int) (h0 : Nat) (k0 : κ h0 = 11) (i : Int32) (hi0 : 0 ≤ i.toInt) (hi1 : i.toInt < g 11 13) : Met l yX7_forget wsX7_forget ({ frames := 1, cells := 0, slots := 0, locals := 24 } : Room) (he_Pre dC dI dA κ B g [Value.ref h0, Value.int i]) (he_Qv dC dI dA κ B (fun u => hg_Q (fun a b => (a = 11 ∧ b = 13) ∨ (26 ≤ a ∧ a ≤ 28 ∧ b < 12) ∨ (a = 30 ∧ b < 108) ∨ (a = 29 ∧ b < 6480)) g u ∧ u 11 13 = g 11 13 - 1 ∧ hm_tab u = (hm_tab g).eraseIdx i.toInt.toNat)) 0 0 (hp_A B) := by
  refine Met.ofW (cc := cX7_forget) (maxL := 3) (ret := none) (by decide) rfl ?_
  intro p e s m args below meth c s₁ Bd hml hv
  obtain ⟨rfl, hK, hN, hW, hF⟩ := hv
  have hx := Bd.exec
  have hb := Bd.bytes
  have hr := Bd.returns
  have hts := atoms_spec (ws := wsX7_forget) Bd.pre
  have hown : s.vm.findClass RX7 = some m.cls := findClass_of_methodNamed Bd.named
  have hlocks := Bd.notSynchronized
  have hJ : he_J dC dI dA κ B g s.heap s.heap [] := ⟨hF, va_S.rf⟩
  have hl := lv_entry ([Value.ref h0, Value.int i]) (n := 3) (Nat.le_of_ble_eq_true rfl)
  rw [lg_entry_eq]
  generalize (lg_sl ([Value.ref h0, Value.int i]) ++ List.replicate (3 - (lg_sl ([Value.ref h0, Value.int i])).length) Slot.unset).toArray = ls at hl ⊢
  have hl : lv_has ls 3 [(0, .ref h0), (1, .int i)] := hl
  have hsz := he_msz hJ k0
  have hkn := he_m13 hJ k0
  refine lv_iload_n hx hb dX7_forget_0 rfl (lv_at hl 1 rfl) ?_
  refine hq_iconst hx hb dX7_forget_1 (by decide) (by decide) (fun z1 ez1 => ?_)
  refine hq_iadd hx hb dX7_forget_2 (by omega) (by omega) (fun x2 ex2 => ?_)
  refine lv_istore_n (lv' := [(2, .int x2), (0, .ref h0), (1, .int i)]) hx hb dX7_forget_3 rfl hl (by decide) rfl (fun ls hl => ?_)
  have lp5 : ∀ (nlp5 : Nat) (v3 : Int32) (g4 : Nat → Nat → Int) (H : Heap) (locs : List Loc) (ls : Array Slot), (hg_Q (fun a b => (a = 11 ∧ b = 13) ∨ (26 ≤ a ∧ a ≤ 28 ∧ b < 12) ∨ (a = 30 ∧ b < 108) ∨ (a = 29 ∧ b < 6480)) g g4) → (i.toInt + 1 ≤ v3.toInt) → (v3.toInt ≤ g 11 13) → (g4 11 13 = g 11 13) → (∀ k : Nat, k < 12 → hm_row g4 k = if i.toInt.toNat ≤ k ∧ (k : Int) + 1 < v3.toInt then hm_row g (k + 1) else hm_row g k) → (14 - v3.toInt < (nlp5 : Int)) → he_J dC dI dA κ B g4 s.heap H locs → lv_has ls 3 [(0, .ref h0), (1, .int i), (2, .int v3)] → W p l e (headSpec wsX7_forget ({ frames := 1, cells := 0, slots := 0, locals := 24 } : Room)).room s m ([Value.ref h0, Value.int i] : List Value).toArray below meth c H locs 0 0 (MQ below (he_Qv dC dI dA κ B (fun u => hg_Q (fun a b => (a = 11 ∧ b = 13) ∨ (26 ≤ a ∧ a ≤ 28 ∧ b < 12) ∨ (a = 30 ∧ b < 108) ∨ (a = 29 ∧ b < 6480)) g u ∧ u 11 13 = g 11 13 - 1 ∧ hm_tab u = (hm_tab g).eraseIdx i.toInt.toNat)) ([Value.ref h0, Value.int i] : List Value).toArray s 0 0 (hp_A B)) (F0 m 4 ls []) := by
    intro nlp5
    induction nlp5 with
    | zero => intro v3 g4 H locs ls iv7 iv8 iv9 iv10 iv11 hm6 hJ hl; exact absurd hm6 (by omega)
    | succ nlp5 ihlp5 =>
      intro v3 g4 H locs ls iv7 iv8 iv9 iv10 iv11 hm6 hJ hl
      have szl := he_msz hJ k0
      refine lv_iload_n hx hb dX7_forget_4 rfl (lv_at hl 2 rfl) ?_
      refine lv_aload_n hx hb dX7_forget_5 rfl (lv_at hl 0 rfl) ?_
      refine he_geti (C := RX7) (T := TX7) (N := 24) (ci := 7) (kd := 11) hx hb hts iX7_forget_X7 hown hK hJ k0 rfl rfl 13 (by decide) (hts (.fieldLink RX7 91 "NeighborBookModel" "known" "I") (List.mem_of_getElem? (i := 1) rfl)) (fun _ h9 => h9) rfl rfl dX7_forget_6 (fun x12 ex12 => ?_)
      have ex12 : x12.toInt = g4 11 13 ∧ 0 ≤ x12.toInt ∧ x12.toInt ≤ 12 := ex12
      refine hq_icmp_ge (tgt := 26) hx hb dX7_forget_9 (by decide) (fun c13 => ?_) (fun c13 => ?_)
      · refine lv_aload_n hx hb dX7_forget_26 rfl (lv_at hl 0 rfl) ?_
        refine lv_dup hx hb dX7_forget_27 rfl ?_
        refine he_geti (C := RX7) (T := TX7) (N := 24) (ci := 7) (kd := 11) hx hb hts iX7_forget_X7 hown hK hJ k0 rfl rfl 13 (by decide) (hts (.fieldLink RX7 91 "NeighborBookModel" "known" "I") (List.mem_of_getElem? (i := 1) rfl)) (fun _ h9 => h9) rfl rfl dX7_forget_28 (fun x14 ex14 => ?_)
        have ex14 : x14.toInt = g4 11 13 ∧ 0 ≤ x14.toInt ∧ x14.toInt ≤ 12 := ex14
        refine hq_iconst hx hb dX7_forget_31 (by decide) (by decide) (fun z15 ez15 => ?_)
        refine hq_isub hx hb dX7_forget_32 (by omega) (by omega) (fun x16 ex16 => ?_)
        refine he_putx (C := RX7) (T := TX7) (N := 24) (ci := 7) (kd := 11) hx hb hts iX7_forget_X7 hown hK hJ k0 rfl rfl 13 (by decide) (hts (.fieldLink RX7 91 "NeighborBookModel" "known" "I") (List.mem_of_getElem? (i := 1) rfl)) (fun _ h9 => h9) tyX7 tyX7_ok nmX7 (x := x16) rfl rfl (by decide) hW rfl rfl rfl rfl (show x16.toInt = x16.toInt ∧ 0 ≤ x16.toInt ∧ x16.toInt ≤ 12 from ⟨rfl, by omega, by omega⟩) dX7_forget_33 (fun g17 H locs eg17 ng17 hJ => ?_)
        have eg17 : g17 11 13 = x16.toInt := eg17
        have P18 : hg_Q (fun a b => (a = 11 ∧ b = 13) ∨ (26 ≤ a ∧ a ≤ 28 ∧ b < 12) ∨ (a = 30 ∧ b < 108) ∨ (a = 29 ∧ b < 6480)) g g17 := hg_Q.put iv7 ng17 (show (11 = 11 ∧ 13 = 13) ∨ (26 ≤ 11 ∧ 11 ≤ 28 ∧ 13 < 12) ∨ (11 = 30 ∧ 13 < 108) ∨ (11 = 29 ∧ 13 < 6480) from by omega)
        exact he_vret hx hb hK hN hW hlocks hJ hr ⟨P18, by omega, hm_erase (by omega) (by omega) (fun k hk => by
          rw [hm_row_ne szl (by omega) (fun a q1 q2 => ng17 a k (by omega)) (fun c9 hc9 => ng17 30 _ (by omega)) (fun c9 hc9 => ng17 29 _ (by omega)), iv11 k (by omega)]
          by_cases h8 : k < i.toInt.toNat
          · rw [if_neg (by omega), if_pos h8]
          · rw [if_pos (by omega), if_neg h8])⟩ dX7_forget_36
      · refine lv_aload_n hx hb dX7_forget_12 rfl (lv_at hl 0 rfl) ?_
        refine lv_iload_n hx hb dX7_forget_13 rfl (lv_at hl 2 rfl) ?_
        refine lv_iload_n hx hb dX7_forget_14 rfl (lv_at hl 2 rfl) ?_
        refine hq_iconst hx hb dX7_forget_15 (by decide) (by decide) (fun z19 ez19 => ?_)
        refine hq_isub hx hb dX7_forget_16 (by omega) (by omega) (fun x20 ex20 => ?_)
        refine he_callv (va_runV (As := [.int v3, .int x20]) (rest := []) ⟨hx, hb, hml, hown, hts⟩ (e_X7_move l dC dI dA κ B g4 h0 k0 v3 x20 (by omega) (by omega) (by omega) (by omega) (by omega)) (cwV 2 hts gX7_forget_X7_move rfl rfl rfl (by decide +kernel) ⟨Nat.le_of_ble_eq_true rfl, Nat.le_of_ble_eq_true rfl⟩) (he_preV (q := (RX7, TX7, 24)) [.int v3, .int x20] hK hN hW hJ k0 rfl rfl) rfl rfl hl.1 rfl (lv_room (Nat.le_of_ble_eq_true rfl)) dX7_forget_17 ⟨Nat.zero_le _, Nat.zero_le _⟩) hJ (fun g21 H locs hp hJ => ?_)
        obtain ⟨P23a, f22⟩ := hp
        have P23 : hg_Q (fun a b => (a = 11 ∧ b = 13) ∨ (26 ≤ a ∧ a ≤ 28 ∧ b < 12) ∨ (a = 30 ∧ b < 108) ∨ (a = 29 ∧ b < 6480)) g g21 := hg_Q.tr iv7 (hg_Q.le P23a (fun a b h9 => by have h9 : (26 ≤ a ∧ a ≤ 28 ∧ b = x20.toInt.toNat) ∨ (a = 30 ∧ 9 * x20.toInt.toNat ≤ b ∧ b < 9 * x20.toInt.toNat + 9) ∨ (a = 29 ∧ 540 * x20.toInt.toNat ≤ b ∧ b < 540 * x20.toInt.toNat + 540) := h9; show (a = 11 ∧ b = 13) ∨ (26 ≤ a ∧ a ≤ 28 ∧ b < 12) ∨ (a = 30 ∧ b < 108) ∨ (a = 29 ∧ b < 6480); omega))
        have qt24 : g21 11 13 = g4 11 13 := P23a 11 13 (show ¬ ((26 ≤ 11 ∧ 11 ≤ 28 ∧ 13 = x20.toInt.toNat) ∨ (11 = 30 ∧ 9 * x20.toInt.toNat ≤ 13 ∧ 13 < 9 * x20.toInt.toNat + 9) ∨ (11 = 29 ∧ 540 * x20.toInt.toNat ≤ 13 ∧ 13 < 540 * x20.toInt.toNat + 540)) from by omega)
        refine hq_iinc (k := 2) (lv' := fun (z9 : Int32) => [(2, .int z9), (0, .ref h0), (1, .int i)]) hx hb dX7_forget_20 hl rfl (by decide) (by decide) (by omega) (by omega) (by decide) (fun _ => rfl) (fun x25 ls ex25 hl => ?_)
        have hl : lv_has ls 3 [(2, .int x25), (0, .ref h0), (1, .int i)] := hl
        refine lv_goto (tgt := 4) hx hb dX7_forget_23 (by decide) ?_
        exact ihlp5 x25 g21 _ _ ls P23 (by omega) (by omega) (by omega) (fun k hk => by
          by_cases h9 : k = x20.toInt.toNat
          · have h7 := iv11 v3.toInt.toNat
            rw [h9, hm_mvp.row f22 (fun c9 hc9 => szl _ (by omega)), if_pos (by omega), show x20.toInt.toNat + 1 = v3.toInt.toNat by omega]
            by_cases h6 : v3.toInt.toNat < 12
            · rw [h7 h6, if_neg (by omega)]
            · exfalso; omega
          · rw [hm_row_ne szl (by omega) (fun a q1 q2 => P23a a _ (show ¬ ((26 ≤ a ∧ a ≤ 28 ∧ k = x20.toInt.toNat) ∨ (a = 30 ∧ 9 * x20.toInt.toNat ≤ k ∧ k < 9 * x20.toInt.toNat + 9) ∨ (a = 29 ∧ 540 * x20.toInt.toNat ≤ k ∧ k < 540 * x20.toInt.toNat + 540)) from by omega)) (fun c9 hc9 => P23a 30 _ (show ¬ ((26 ≤ 30 ∧ 30 ≤ 28 ∧ (9 * k + c9) = x20.toInt.toNat) ∨ (30 = 30 ∧ 9 * x20.toInt.toNat ≤ (9 * k + c9) ∧ (9 * k + c9) < 9 * x20.toInt.toNat + 9) ∨ (30 = 29 ∧ 540 * x20.toInt.toNat ≤ (9 * k + c9) ∧ (9 * k + c9) < 540 * x20.toInt.toNat + 540)) from by omega)) (fun c9 hc9 => P23a 29 _ (show ¬ ((26 ≤ 29 ∧ 29 ≤ 28 ∧ (540 * k + c9) = x20.toInt.toNat) ∨ (29 = 30 ∧ 9 * x20.toInt.toNat ≤ (540 * k + c9) ∧ (540 * k + c9) < 9 * x20.toInt.toNat + 9) ∨ (29 = 29 ∧ 540 * x20.toInt.toNat ≤ (540 * k + c9) ∧ (540 * k + c9) < 540 * x20.toInt.toNat + 540)) from by omega)), iv11 k hk]
            by_cases h8 : i.toInt.toNat ≤ k ∧ (k : Int) + 1 < v3.toInt
            · rw [if_pos h8, if_pos (by omega)]
            · rw [if_neg h8, if_neg (by omega)]) (by omega) hJ (lv_sub hl [1, 2, 0] rfl)
  exact lp5 ((14 - x2.toInt).toNat + 1) x2 g _ _ ls hg_Q.rf (by omega) (by omega) (by omega) (fun k hk => by rw [if_neg (by omega)]) (by omega) hJ (lv_sub hl [1, 2, 0] rfl)
