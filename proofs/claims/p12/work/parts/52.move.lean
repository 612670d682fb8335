theorem iX7_move_X7 : ∀ w ∈ wsX70, w ∈ wsX7_move := fun _ h => List.mem_cons_of_mem _ (List.mem_append_right _ h)
set_option maxRecDepth 100000 in
set_option maxHeartbeats 4000000 in
theorem e_X7_move (l : Launch) (dC : Nat → ClassId) (dI : Nat → Nat → Nat) (dA : Nat → ClassId) (κ : Nat → Nat) (B : Nat) (g : Nat → Nat → Int) (h0 : Nat) (k0 : κ h0 = 11) (frm : Int32) (to : Int32) (hf0 : 0 ≤ frm.toInt) (hf1 : frm.toInt ≤ 12) (ht0 : 0 ≤ to.toInt) (ht1 : to.toInt ≤ 12) (hne : frm.toInt ≠ to.toInt) : Met l yX7_move wsX7_move ({ frames := 0, cells := 0, slots := 0, locals := 0 } : Room) (he_Pre dC dI dA κ B g [Value.ref h0, Value.int frm, Value.int to]) (he_Qv dC dI dA κ B (fun u => hg_Q (fun a b => (26 ≤ a ∧ a ≤ 28 ∧ b = to.toInt.toNat) ∨ (a = 30 ∧ 9 * to.toInt.toNat ≤ b ∧ b < 9 * to.toInt.toNat + 9) ∨ (a = 29 ∧ 540 * to.toInt.toNat ≤ b ∧ b < 540 * to.toInt.toNat + 540)) g u ∧ hm_mvp g u frm.toInt.toNat to.toInt.toNat 9 540)) 0 0 (hp_A B) := by
  refine Met.ofW (cc := cX7_move) (maxL := 5) (ret := none) (by decide) rfl ?_
  intro p e s m args below meth c s₁ Bd hml hv
  obtain ⟨rfl, hK, hN, hW, hF⟩ := hv
  have hx := Bd.exec
  have hb := Bd.bytes
  have hr := Bd.returns
  have hts := atoms_spec (ws := wsX7_move) Bd.pre
  have hown : s.vm.findClass RX7 = some m.cls := findClass_of_methodNamed Bd.named
  have hlocks := Bd.notSynchronized
  have hJ : he_J dC dI dA κ B g s.heap s.heap [] := ⟨hF, va_S.rf⟩
  have hl := lv_entry ([Value.ref h0, Value.int frm, Value.int to]) (n := 5) (Nat.le_of_ble_eq_true rfl)
  rw [lg_entry_eq]
  generalize (lg_sl ([Value.ref h0, Value.int frm, Value.int to]) ++ List.replicate (5 - (lg_sl ([Value.ref h0, Value.int frm, Value.int to])).length) Slot.unset).toArray = ls at hl ⊢
  have hl : lv_has ls 5 [(0, .ref h0), (1, .int frm), (2, .int to)] := hl
  refine lv_aload_n hx hb dX7_move_0 rfl (lv_at hl 0 rfl) ?_
  refine he_getr (C := RX7) (T := TX7) (N := 24) (ci := 7) (kd := 11) hx hb hts iX7_move_X7 hown hK hJ k0 rfl rfl 14 (by decide) (hts (.fieldLink RX7 49 "NeighborBookModel" "ports" "[I") (List.mem_of_getElem? (i := 1) rfl)) (fun _ h9 => h9) rfl dX7_move_1 (fun b1 kb1 => ?_)
  refine lv_iload_n hx hb dX7_move_4 rfl (lv_at hl 2 rfl) ?_
  refine lv_aload_n hx hb dX7_move_5 rfl (lv_at hl 0 rfl) ?_
  refine he_getr (C := RX7) (T := TX7) (N := 24) (ci := 7) (kd := 11) hx hb hts iX7_move_X7 hown hK hJ k0 rfl rfl 14 (by decide) (hts (.fieldLink RX7 49 "NeighborBookModel" "ports" "[I") (List.mem_of_getElem? (i := 1) rfl)) (fun _ h9 => h9) rfl dX7_move_6 (fun b2 kb2 => ?_)
  refine lv_iload_n hx hb dX7_move_9 rfl (lv_at hl 1 rfl) ?_
  refine he_iald (kd := 26) (n := 13) hx hb hK hJ kb2 rfl (by omega) (by omega) (sp := (9, 3)) rfl rfl dX7_move_10 (fun x3 ex3 => ?_)
  have ex3 : x3.toInt = g 26 frm.toInt.toNat ∧ 0 ≤ x3.toInt ∧ x3.toInt ≤ 3 := ex3
  refine he_iastx (kd := 26) (n := 13) hx hb hK hJ kb1 rfl (by omega) (by omega) (by decide) hW rfl (sp := (9, 3)) rfl rfl (show x3.toInt = x3.toInt ∧ 0 ≤ x3.toInt ∧ x3.toInt ≤ 3 from ⟨rfl, by omega, by omega⟩) dX7_move_11 (fun g4 H locs eg4 ng4 hJ => ?_)
  have eg4 : g4 26 to.toInt.toNat = x3.toInt := eg4
  have P5 : hg_Q (fun a b => (26 ≤ a ∧ a ≤ 28 ∧ b = to.toInt.toNat) ∨ (a = 30 ∧ 9 * to.toInt.toNat ≤ b ∧ b < 9 * to.toInt.toNat + 9) ∨ (a = 29 ∧ 540 * to.toInt.toNat ≤ b ∧ b < 540 * to.toInt.toNat + 540)) g g4 := hg_Q.put hg_Q.rf ng4 (show (26 ≤ 26 ∧ 26 ≤ 28 ∧ to.toInt.toNat = to.toInt.toNat) ∨ (26 = 30 ∧ 9 * to.toInt.toNat ≤ to.toInt.toNat ∧ to.toInt.toNat < 9 * to.toInt.toNat + 9) ∨ (26 = 29 ∧ 540 * to.toInt.toNat ≤ to.toInt.toNat ∧ to.toInt.toNat < 540 * to.toInt.toNat + 540) from by omega)
  refine lv_aload_n hx hb dX7_move_12 rfl (lv_at hl 0 rfl) ?_
  refine he_getr (C := RX7) (T := TX7) (N := 24) (ci := 7) (kd := 11) hx hb hts iX7_move_X7 hown hK hJ k0 rfl rfl 15 (by decide) (hts (.fieldLink RX7 52 "NeighborBookModel" "left" "[I") (List.mem_of_getElem? (i := 2) rfl)) (fun _ h9 => h9) rfl dX7_move_13 (fun b6 kb6 => ?_)
  refine lv_iload_n hx hb dX7_move_16 rfl (lv_at hl 2 rfl) ?_
  refine lv_aload_n hx hb dX7_move_17 rfl (lv_at hl 0 rfl) ?_
  refine he_getr (C := RX7) (T := TX7) (N := 24) (ci := 7) (kd := 11) hx hb hts iX7_move_X7 hown hK hJ k0 rfl rfl 15 (by decide) (hts (.fieldLink RX7 52 "NeighborBookModel" "left" "[I") (List.mem_of_getElem? (i := 2) rfl)) (fun _ h9 => h9) rfl dX7_move_18 (fun b7 kb7 => ?_)
  refine lv_iload_n hx hb dX7_move_21 rfl (lv_at hl 1 rfl) ?_
  refine he_iald (kd := 27) (n := 13) hx hb hK hJ kb7 rfl (by omega) (by omega) (sp := (0, 0)) rfl rfl dX7_move_22 (fun x8 ex8 => ?_)
  have ex8 : x8.toInt = g4 27 frm.toInt.toNat := ex8
  refine he_iastx (kd := 27) (n := 13) hx hb hK hJ kb6 rfl (by omega) (by omega) (by decide) hW rfl (sp := (0, 0)) rfl rfl rfl dX7_move_23 (fun g9 H locs eg9 ng9 hJ => ?_)
  have eg9 : g9 27 to.toInt.toNat = x8.toInt := eg9
  have P10 : hg_Q (fun a b => (26 ≤ a ∧ a ≤ 28 ∧ b = to.toInt.toNat) ∨ (a = 30 ∧ 9 * to.toInt.toNat ≤ b ∧ b < 9 * to.toInt.toNat + 9) ∨ (a = 29 ∧ 540 * to.toInt.toNat ≤ b ∧ b < 540 * to.toInt.toNat + 540)) g g9 := hg_Q.put P5 ng9 (show (26 ≤ 27 ∧ 27 ≤ 28 ∧ to.toInt.toNat = to.toInt.toNat) ∨ (27 = 30 ∧ 9 * to.toInt.toNat ≤ to.toInt.toNat ∧ to.toInt.toNat < 9 * to.toInt.toNat + 9) ∨ (27 = 29 ∧ 540 * to.toInt.toNat ≤ to.toInt.toNat ∧ to.toInt.toNat < 540 * to.toInt.toNat + 540) from by omega)
  refine lv_aload_n hx hb dX7_move_24 rfl (lv_at hl 0 rfl) ?_
  refine he_getr (C := RX7) (T := TX7) (N := 24) (ci := 7) (kd := 11) hx hb hts iX7_move_X7 hown hK hJ k0 rfl rfl 16 (by decide) (hts (.fieldLink RX7 55 "NeighborBookModel" "frames" "[I") (List.mem_of_getElem? (i := 3) rfl)) (fun _ h9 => h9) rfl dX7_move_25 (fun b11 kb11 => ?_)
  refine lv_iload_n hx hb dX7_move_28 rfl (lv_at hl 2 rfl) ?_
  refine lv_aload_n hx hb dX7_move_29 rfl (lv_at hl 0 rfl) ?_
  refine he_getr (C := RX7) (T := TX7) (N := 24) (ci := 7) (kd := 11) hx hb hts iX7_move_X7 hown hK hJ k0 rfl rfl 16 (by decide) (hts (.fieldLink RX7 55 "NeighborBookModel" "frames" "[I") (List.mem_of_getElem? (i := 3) rfl)) (fun _ h9 => h9) rfl dX7_move_30 (fun b12 kb12 => ?_)
  refine lv_iload_n hx hb dX7_move_33 rfl (lv_at hl 1 rfl) ?_
  refine he_iald (kd := 28) (n := 13) hx hb hK hJ kb12 rfl (by omega) (by omega) (sp := (0, 0)) rfl rfl dX7_move_34 (fun x13 ex13 => ?_)
  have ex13 : x13.toInt = g9 28 frm.toInt.toNat := ex13
  refine he_iastx (kd := 28) (n := 13) hx hb hK hJ kb11 rfl (by omega) (by omega) (by decide) hW rfl (sp := (0, 0)) rfl rfl rfl dX7_move_35 (fun g14 H locs eg14 ng14 hJ => ?_)
  have eg14 : g14 28 to.toInt.toNat = x13.toInt := eg14
  have P15 : hg_Q (fun a b => (26 ≤ a ∧ a ≤ 28 ∧ b = to.toInt.toNat) ∨ (a = 30 ∧ 9 * to.toInt.toNat ≤ b ∧ b < 9 * to.toInt.toNat + 9) ∨ (a = 29 ∧ 540 * to.toInt.toNat ≤ b ∧ b < 540 * to.toInt.toNat + 540)) g g14 := hg_Q.put P10 ng14 (show (26 ≤ 28 ∧ 28 ≤ 28 ∧ to.toInt.toNat = to.toInt.toNat) ∨ (28 = 30 ∧ 9 * to.toInt.toNat ≤ to.toInt.toNat ∧ to.toInt.toNat < 9 * to.toInt.toNat + 9) ∨ (28 = 29 ∧ 540 * to.toInt.toNat ≤ to.toInt.toNat ∧ to.toInt.toNat < 540 * to.toInt.toNat + 540) from by omega)
  have m6 : g14 26 to.toInt.toNat = g 26 frm.toInt.toNat := by rw [ng14 26 to.toInt.toNat (by omega), ng9 26 to.toInt.toNat (by omega), eg4]; omega
  have m7 : g14 27 to.toInt.toNat = g 27 frm.toInt.toNat := by
    have h9 := ng4 27 frm.toInt.toNat (by omega)
    rw [ng14 27 to.toInt.toNat (by omega), eg9]; omega
  have m8 : g14 28 to.toInt.toNat = g 28 frm.toInt.toNat := by
    have h9 := ng4 28 frm.toInt.toNat (by omega)
    have h8 := ng9 28 frm.toInt.toNat (by omega)
    rw [eg14]; omega
  refine hq_iconst hx hb dX7_move_36 (by decide) (by decide) (fun z16 ez16 => ?_)
  refine lv_istore_n (lv' := [(3, .int z16), (0, .ref h0), (1, .int frm), (2, .int to)]) hx hb dX7_move_37 rfl hl (by decide) rfl (fun ls hl => ?_)
  have lp19 : ∀ (nlp19 : Nat) (v17 : Int32) (g18 : Nat → Nat → Int) (H : Heap) (locs : List Loc) (ls : Array Slot), (hg_Q (fun a b => (26 ≤ a ∧ a ≤ 28 ∧ b = to.toInt.toNat) ∨ (a = 30 ∧ 9 * to.toInt.toNat ≤ b ∧ b < 9 * to.toInt.toNat + 9) ∨ (a = 29 ∧ 540 * to.toInt.toNat ≤ b ∧ b < 540 * to.toInt.toNat + 540)) g g18) → (0 ≤ v17.toInt) → (v17.toInt ≤ 9) → (hm_mvp g g18 frm.toInt.toNat to.toInt.toNat v17.toInt (60 * v17.toInt)) → (10 - v17.toInt < (nlp19 : Int)) → he_J dC dI dA κ B g18 s.heap H locs → lv_has ls 5 [(0, .ref h0), (1, .int frm), (2, .int to), (3, .int v17)] → W p l e (headSpec wsX7_move ({ frames := 0, cells := 0, slots := 0, locals := 0 } : Room)).room s m ([Value.ref h0, Value.int frm, Value.int to] : List Value).toArray below meth c H locs 0 0 (MQ below (he_Qv dC dI dA κ B (fun u => hg_Q (fun a b => (26 ≤ a ∧ a ≤ 28 ∧ b = to.toInt.toNat) ∨ (a = 30 ∧ 9 * to.toInt.toNat ≤ b ∧ b < 9 * to.toInt.toNat + 9) ∨ (a = 29 ∧ 540 * to.toInt.toNat ≤ b ∧ b < 540 * to.toInt.toNat + 540)) g u ∧ hm_mvp g u frm.toInt.toNat to.toInt.toNat 9 540)) ([Value.ref h0, Value.int frm, Value.int to] : List Value).toArray s 0 0 (hp_A B)) (F0 m 38 ls []) := by
    intro nlp19
    induction nlp19 with
    | zero => intro v17 g18 H locs ls iv21 iv22 iv23 iv24 hm20 hJ hl; exact absurd hm20 (by omega)
    | succ nlp19 ihlp19 =>
      intro v17 g18 H locs ls iv21 iv22 iv23 iv24 hm20 hJ hl
      refine lv_iload_n hx hb dX7_move_38 rfl (lv_at hl 3 rfl) ?_
      refine hq_bipush hx hb dX7_move_39 (by decide) (fun z25 ez25 => ?_)
      refine hq_icmp_ge (tgt := 122) hx hb dX7_move_41 (by decide) (fun c26 => ?_) (fun c26 => ?_)
      · exact he_vret hx hb hK hN hW hlocks hJ hr ⟨iv21, by have h9 := iv24; rw [show v17.toInt = 9 by omega] at h9; exact h9⟩ dX7_move_122
      · refine lv_aload_n hx hb dX7_move_44 rfl (lv_at hl 0 rfl) ?_
        refine he_getr (C := RX7) (T := TX7) (N := 24) (ci := 7) (kd := 11) hx hb hts iX7_move_X7 hown hK hJ k0 rfl rfl 18 (by decide) (hts (.fieldLink RX7 61 "NeighborBookModel" "sizes" "[I") (List.mem_of_getElem? (i := 4) rfl)) (fun _ h9 => h9) rfl dX7_move_45 (fun b27 kb27 => ?_)
        refine hq_bipush hx hb dX7_move_48 (by decide) (fun z28 ez28 => ?_)
        refine lv_iload_n hx hb dX7_move_50 rfl (lv_at hl 2 rfl) ?_
        refine hq_imul (w := 9 * to.toInt) hx hb dX7_move_51 (by rw [ez28]) (by omega) (by omega) (fun x29 ex29 => ?_)
        refine lv_iload_n hx hb dX7_move_52 rfl (lv_at hl 3 rfl) ?_
        refine hq_iadd hx hb dX7_move_53 (by omega) (by omega) (fun x30 ex30 => ?_)
        refine lv_aload_n hx hb dX7_move_54 rfl (lv_at hl 0 rfl) ?_
        refine he_getr (C := RX7) (T := TX7) (N := 24) (ci := 7) (kd := 11) hx hb hts iX7_move_X7 hown hK hJ k0 rfl rfl 18 (by decide) (hts (.fieldLink RX7 61 "NeighborBookModel" "sizes" "[I") (List.mem_of_getElem? (i := 4) rfl)) (fun _ h9 => h9) rfl dX7_move_55 (fun b31 kb31 => ?_)
        refine hq_bipush hx hb dX7_move_58 (by decide) (fun z32 ez32 => ?_)
        refine lv_iload_n hx hb dX7_move_60 rfl (lv_at hl 1 rfl) ?_
        refine hq_imul (w := 9 * frm.toInt) hx hb dX7_move_61 (by rw [ez32]) (by omega) (by omega) (fun x33 ex33 => ?_)
        refine lv_iload_n hx hb dX7_move_62 rfl (lv_at hl 3 rfl) ?_
        refine hq_iadd hx hb dX7_move_63 (by omega) (by omega) (fun x34 ex34 => ?_)
        refine he_iald (kd := 30) (n := 117) hx hb hK hJ kb31 rfl (by omega) (by omega) (sp := (10, 60)) rfl rfl dX7_move_64 (fun x35 ex35 => ?_)
        have ex35 : x35.toInt = g18 30 x34.toInt.toNat ∧ -1 ≤ x35.toInt ∧ x35.toInt ≤ 60 := ex35
        refine he_iastx (kd := 30) (n := 117) hx hb hK hJ kb27 rfl (by omega) (by omega) (by decide) hW rfl (sp := (10, 60)) rfl rfl (show x35.toInt = x35.toInt ∧ -1 ≤ x35.toInt ∧ x35.toInt ≤ 60 from ⟨rfl, by omega, by omega⟩) dX7_move_65 (fun g36 H locs eg36 ng36 hJ => ?_)
        have eg36 : g36 30 x30.toInt.toNat = x35.toInt := eg36
        have P37 : hg_Q (fun a b => (26 ≤ a ∧ a ≤ 28 ∧ b = to.toInt.toNat) ∨ (a = 30 ∧ 9 * to.toInt.toNat ≤ b ∧ b < 9 * to.toInt.toNat + 9) ∨ (a = 29 ∧ 540 * to.toInt.toNat ≤ b ∧ b < 540 * to.toInt.toNat + 540)) g g36 := hg_Q.put iv21 ng36 (show (26 ≤ 30 ∧ 30 ≤ 28 ∧ x30.toInt.toNat = to.toInt.toNat) ∨ (30 = 30 ∧ 9 * to.toInt.toNat ≤ x30.toInt.toNat ∧ x30.toInt.toNat < 9 * to.toInt.toNat + 9) ∨ (30 = 29 ∧ 540 * to.toInt.toNat ≤ x30.toInt.toNat ∧ x30.toInt.toNat < 540 * to.toInt.toNat + 540) from by omega)
        have hix : 9 * frm.toInt.toNat + v17.toInt.toNat = x34.toInt.toNat := by omega
        have hsx : g18 30 x34.toInt.toNat = g 30 x34.toInt.toNat := iv21 30 _ (show ¬ ((26 ≤ 30 ∧ 30 ≤ 28 ∧ x34.toInt.toNat = to.toInt.toNat) ∨ (30 = 30 ∧ 9 * to.toInt.toNat ≤ x34.toInt.toNat ∧ x34.toInt.toNat < 9 * to.toInt.toNat + 9) ∨ (30 = 29 ∧ 540 * to.toInt.toNat ≤ x34.toInt.toNat ∧ x34.toInt.toNat < 540 * to.toInt.toNat + 540)) from by omega)
        have hm1 : hm_mvp g g36 frm.toInt.toNat to.toInt.toNat (v17.toInt + 1) (60 * v17.toInt) := hm_mvp.sz iv24 (by omega) (j := x30.toInt.toNat) (by omega) (by rw [show v17.toInt.toNat = v17.toInt.toNat from rfl, hix]; omega) ng36
        refine hq_iconst hx hb dX7_move_66 (by decide) (by decide) (fun z38 ez38 => ?_)
        refine lv_istore (lv' := [(4, .int z38), (0, .ref h0), (1, .int frm), (2, .int to), (3, .int v17)]) hx hb dX7_move_67 hl (by decide) rfl (fun ls hl => ?_)
        have lp41 : ∀ (nlp41 : Nat) (v39 : Int32) (g40 : Nat → Nat → Int) (H : Heap) (locs : List Loc) (ls : Array Slot), (hg_Q (fun a b => (26 ≤ a ∧ a ≤ 28 ∧ b = to.toInt.toNat) ∨ (a = 30 ∧ 9 * to.toInt.toNat ≤ b ∧ b < 9 * to.toInt.toNat + 9) ∨ (a = 29 ∧ 540 * to.toInt.toNat ≤ b ∧ b < 540 * to.toInt.toNat + 540)) g g40) → (0 ≤ v39.toInt) → (v39.toInt ≤ 60) → (hm_mvp g g40 frm.toInt.toNat to.toInt.toNat (v17.toInt + 1) (60 * v17.toInt + v39.toInt)) → (61 - v39.toInt < (nlp41 : Int)) → he_J dC dI dA κ B g40 s.heap H locs → lv_has ls 5 [(0, .ref h0), (1, .int frm), (2, .int to), (3, .int v17), (4, .int v39)] → W p l e (headSpec wsX7_move ({ frames := 0, cells := 0, slots := 0, locals := 0 } : Room)).room s m ([Value.ref h0, Value.int frm, Value.int to] : List Value).toArray below meth c H locs 0 0 (MQ below (he_Qv dC dI dA κ B (fun u => hg_Q (fun a b => (26 ≤ a ∧ a ≤ 28 ∧ b = to.toInt.toNat) ∨ (a = 30 ∧ 9 * to.toInt.toNat ≤ b ∧ b < 9 * to.toInt.toNat + 9) ∨ (a = 29 ∧ 540 * to.toInt.toNat ≤ b ∧ b < 540 * to.toInt.toNat + 540)) g u ∧ hm_mvp g u frm.toInt.toNat to.toInt.toNat 9 540)) ([Value.ref h0, Value.int frm, Value.int to] : List Value).toArray s 0 0 (hp_A B)) (F0 m 69 ls []) := by
          intro nlp41
          induction nlp41 with
          | zero => intro v39 g40 H locs ls iv43 iv44 iv45 iv46 hm42 hJ hl; exact absurd hm42 (by omega)
          | succ nlp41 ihlp41 =>
            intro v39 g40 H locs ls iv43 iv44 iv45 iv46 hm42 hJ hl
            refine lv_iload hx hb dX7_move_69 (lv_at hl 4 rfl) ?_
            refine hq_bipush hx hb dX7_move_71 (by decide) (fun z47 ez47 => ?_)
            refine hq_icmp_ge (tgt := 116) hx hb dX7_move_73 (by decide) (fun c48 => ?_) (fun c48 => ?_)
            · have hm2 := iv46
              rw [show v39.toInt = 60 by omega] at hm2
              refine hq_iinc (k := 3) (lv' := fun (z9 : Int32) => [(3, .int z9), (0, .ref h0), (1, .int frm), (2, .int to), (4, .int v39)]) hx hb dX7_move_116 hl rfl (by decide) (by decide) (by omega) (by omega) (by decide) (fun _ => rfl) (fun x49 ls ex49 hl => ?_)
              have hl : lv_has ls 5 [(3, .int x49), (0, .ref h0), (1, .int frm), (2, .int to), (4, .int v39)] := hl
              refine lv_goto (tgt := 38) hx hb dX7_move_119 (by decide) ?_
              exact ihlp19 x49 g40 _ _ ls iv43 (by omega) (by omega) (by rw [show x49.toInt = v17.toInt + 1 by omega, show 60 * (v17.toInt + 1) = 60 * v17.toInt + 60 by omega]; exact hm2) (by omega) hJ (lv_sub hl [1, 2, 3, 0] rfl)
            · refine lv_aload_n hx hb dX7_move_76 rfl (lv_at hl 0 rfl) ?_
              refine he_getr (C := RX7) (T := TX7) (N := 24) (ci := 7) (kd := 11) hx hb hts iX7_move_X7 hown hK hJ k0 rfl rfl 17 (by decide) (hts (.fieldLink RX7 58 "NeighborBookModel" "bytes" "[B") (List.mem_of_getElem? (i := 5) rfl)) (fun _ h9 => h9) rfl dX7_move_77 (fun b50 kb50 => ?_)
              refine hq_bipush hx hb dX7_move_80 (by decide) (fun z51 ez51 => ?_)
              refine lv_iload_n hx hb dX7_move_82 rfl (lv_at hl 2 rfl) ?_
              refine hq_imul (w := 9 * to.toInt) hx hb dX7_move_83 (by rw [ez51]) (by omega) (by omega) (fun x52 ex52 => ?_)
              refine lv_iload_n hx hb dX7_move_84 rfl (lv_at hl 3 rfl) ?_
              refine hq_iadd hx hb dX7_move_85 (by omega) (by omega) (fun x53 ex53 => ?_)
              refine hq_bipush hx hb dX7_move_86 (by decide) (fun z54 ez54 => ?_)
              refine hq_imul (w := x53.toInt * 60) hx hb dX7_move_88 (by rw [ez54]) (by omega) (by omega) (fun x55 ex55 => ?_)
              refine lv_iload hx hb dX7_move_89 (lv_at hl 4 rfl) ?_
              refine hq_iadd hx hb dX7_move_91 (by omega) (by omega) (fun x56 ex56 => ?_)
              refine lv_aload_n hx hb dX7_move_92 rfl (lv_at hl 0 rfl) ?_
              refine he_getr (C := RX7) (T := TX7) (N := 24) (ci := 7) (kd := 11) hx hb hts iX7_move_X7 hown hK hJ k0 rfl rfl 17 (by decide) (hts (.fieldLink RX7 58 "NeighborBookModel" "bytes" "[B") (List.mem_of_getElem? (i := 5) rfl)) (fun _ h9 => h9) rfl dX7_move_93 (fun b57 kb57 => ?_)
              refine hq_bipush hx hb dX7_move_96 (by decide) (fun z58 ez58 => ?_)
              refine lv_iload_n hx hb dX7_move_98 rfl (lv_at hl 1 rfl) ?_
              refine hq_imul (w := 9 * frm.toInt) hx hb dX7_move_99 (by rw [ez58]) (by omega) (by omega) (fun x59 ex59 => ?_)
              refine lv_iload_n hx hb dX7_move_100 rfl (lv_at hl 3 rfl) ?_
              refine hq_iadd hx hb dX7_move_101 (by omega) (by omega) (fun x60 ex60 => ?_)
              refine hq_bipush hx hb dX7_move_102 (by decide) (fun z61 ez61 => ?_)
              refine hq_imul (w := x60.toInt * 60) hx hb dX7_move_104 (by rw [ez61]) (by omega) (by omega) (fun x62 ex62 => ?_)
              refine lv_iload hx hb dX7_move_105 (lv_at hl 4 rfl) ?_
              refine hq_iadd hx hb dX7_move_107 (by omega) (by omega) (fun x63 ex63 => ?_)
              refine he_bald (kd := 29) (n := 7020) hx hb hK hJ kb57 rfl (by omega) (by omega) (sp := (11, 0)) rfl rfl dX7_move_108 (fun x64 ex64 => ?_)
              have ex64 : x64.toInt = g40 29 x63.toInt.toNat ∧ -128 ≤ x64.toInt ∧ x64.toInt ≤ 127 := ex64
              refine he_bastx (kd := 29) (n := 7020) hx hb hK hJ kb50 rfl (by omega) (by omega) (by decide) hW rfl rfl (by omega) (by omega) dX7_move_109 (fun g65 H locs eg65 ng65 hJ => ?_)
              have eg65 : g65 29 x56.toInt.toNat = x64.toInt := eg65
              have P66 : hg_Q (fun a b => (26 ≤ a ∧ a ≤ 28 ∧ b = to.toInt.toNat) ∨ (a = 30 ∧ 9 * to.toInt.toNat ≤ b ∧ b < 9 * to.toInt.toNat + 9) ∨ (a = 29 ∧ 540 * to.toInt.toNat ≤ b ∧ b < 540 * to.toInt.toNat + 540)) g g65 := hg_Q.put iv43 ng65 (show (26 ≤ 29 ∧ 29 ≤ 28 ∧ x56.toInt.toNat = to.toInt.toNat) ∨ (29 = 30 ∧ 9 * to.toInt.toNat ≤ x56.toInt.toNat ∧ x56.toInt.toNat < 9 * to.toInt.toNat + 9) ∨ (29 = 29 ∧ 540 * to.toInt.toNat ≤ x56.toInt.toNat ∧ x56.toInt.toNat < 540 * to.toInt.toNat + 540) from by omega)
              have hix : 540 * frm.toInt.toNat + (60 * v17.toInt + v39.toInt).toNat = x63.toInt.toNat := by omega
              have hsx : g40 29 x63.toInt.toNat = g 29 x63.toInt.toNat := iv43 29 _ (show ¬ ((26 ≤ 29 ∧ 29 ≤ 28 ∧ x63.toInt.toNat = to.toInt.toNat) ∨ (29 = 30 ∧ 9 * to.toInt.toNat ≤ x63.toInt.toNat ∧ x63.toInt.toNat < 9 * to.toInt.toNat + 9) ∨ (29 = 29 ∧ 540 * to.toInt.toNat ≤ x63.toInt.toNat ∧ x63.toInt.toNat < 540 * to.toInt.toNat + 540)) from by omega)
              have hm1 : hm_mvp g g65 frm.toInt.toNat to.toInt.toNat (v17.toInt + 1) (60 * v17.toInt + v39.toInt + 1) := hm_mvp.by iv46 (by omega) (j := x56.toInt.toNat) (by omega) (by rw [hix]; omega) ng65
              refine hq_iinc (k := 4) (lv' := fun (z9 : Int32) => [(4, .int z9), (0, .ref h0), (1, .int frm), (2, .int to), (3, .int v17)]) hx hb dX7_move_110 hl rfl (by decide) (by decide) (by omega) (by omega) (by decide) (fun _ => rfl) (fun x67 ls ex67 hl => ?_)
              have hl : lv_has ls 5 [(4, .int x67), (0, .ref h0), (1, .int frm), (2, .int to), (3, .int v17)] := hl
              refine lv_goto (tgt := 69) hx hb dX7_move_113 (by decide) ?_
              exact ihlp41 x67 g65 _ _ ls P66 (by omega) (by omega) (by rw [show 60 * v17.toInt + x67.toInt = 60 * v17.toInt + v39.toInt + 1 by omega]; exact hm1) (by omega) hJ (lv_sub hl [1, 2, 3, 4, 0] rfl)
        exact lp41 ((61 - z38.toInt).toNat + 1) z38 g36 _ _ ls P37 (by omega) (by omega) (by rw [show 60 * v17.toInt + z38.toInt = 60 * v17.toInt by omega]; exact hm1) (by omega) hJ (lv_sub hl [1, 2, 3, 4, 0] rfl)
  exact lp19 ((10 - z16.toInt).toNat + 1) z16 g14 _ _ ls P15 (by omega) (by omega) ⟨m6, m7, m8, fun k hk => absurd hk (by omega), fun k hk => absurd hk (by omega)⟩ (by omega) hJ (lv_sub hl [1, 2, 3, 0] rfl)
