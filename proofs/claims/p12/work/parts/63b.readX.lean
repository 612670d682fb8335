set_option maxRecDepth 100000 in
set_option maxHeartbeats 4000000 in
theorem e_X1_readX (l : Launch) (dC : Nat → ClassId) (dI : Nat → Nat → Nat) (dA : Nat → ClassId) (κ : Nat → Nat) (B : Nat) (g : Nat → Nat → Int) (cq : Nat) (hcq : cq < 13) (h0 : Nat) (k0 : κ h0 = 3) (frame : Nat) (kframe : κ frame = 12) (length : Int32) (hl0 : 0 ≤ length.toInt) (hl7 : length.toInt ≤ 700) (hcr : g 3 0 = 320 + (cq : Int)) : Met l yX1_read wsX1_read ({ frames := 4, cells := 0, slots := 0, locals := 88 } : Room) (he_Pre dC dI dA κ B g [Value.ref h0, Value.ref frame, Value.int length]) (he_Qi dC dI dA κ B (fun r u => hg_Q (fun a b => ((a = 3 ∧ b = 1) ∨ a = 340 + cq ∨ a = 360 + cq)) g u ∧ (r.toInt = 0 ↔ (hq_P (g 12) length.toInt 351 0 0 hc_e (g 3 1)).1 = true) ∧ hc_con u cq = (hq_P (g 12) length.toInt 351 0 0 hc_e (g 3 1)).2.1 ∧ u 3 1 = (hq_P (g 12) length.toInt 351 0 0 hc_e (g 3 1)).2.2)) 0 0 (hp_A B) := by
  refine Met.ofW (cc := cX1_read) (maxL := 10) (ret := (some .int)) (by decide) rfl ?_
  intro p e s m args below meth c s₁ Bd hml hv
  obtain ⟨rfl, hK, hN, hW, hF⟩ := hv
  have hx := Bd.exec
  have hb := Bd.bytes
  have hr := Bd.returns
  have hts := atoms_spec (ws := wsX1_read) Bd.pre
  have hown : s.vm.findClass RX1 = some m.cls := findClass_of_methodNamed Bd.named
  have hlocks := Bd.notSynchronized
  have hJ : he_J dC dI dA κ B g s.heap s.heap [] := ⟨hF, va_S.rf⟩
  have hl := lv_entry ([Value.ref h0, Value.ref frame, Value.int length]) (n := 10) (Nat.le_of_ble_eq_true rfl)
  rw [lg_entry_eq]
  generalize (lg_sl ([Value.ref h0, Value.ref frame, Value.int length]) ++ List.replicate (10 - (lg_sl ([Value.ref h0, Value.ref frame, Value.int length])).length) Slot.unset).toArray = ls at hl ⊢
  have hl : lv_has ls 10 [(0, .ref h0), (1, .ref frame), (2, .int length)] := hl
  refine lv_aload_n hx hb dX1_read_0 rfl (lv_at hl 0 rfl) ?_
  refine he_getc (C := RX1) (T := TX1) (N := 2) (ci := 1) (kd := 3) hx hb hts iX1_read_X1 hown hK hJ k0 rfl rfl 0 (by decide) (hts (.fieldLink RX1 12 "NeighborBook$FrameReader" "contents" "LNeighborBook$Contents;") (List.mem_of_getElem? (i := 1) rfl)) (fun _ h9 => h9) rfl dX1_read_1 (fun b1 c2 hc2 kb1 ec2 => ?_)
  have ec2 : g 3 0 = 320 + (c2 : Int) := ec2
  refine he_callv (va_runV (As := []) (rest := []) ⟨hx, hb, hml, hown, hts⟩ (e_X0_clear l dC dI dA κ B g (c2) (by omega) b1 kb1) (cwV 0 hts gX1_read_X0_clear rfl rfl rfl (by decide +kernel) ⟨Nat.le_of_ble_eq_true rfl, Nat.le_of_ble_eq_true rfl⟩) (he_preV (q := (RX0, TX0, 2)) [] hK hN hW hJ kb1 (hk_t320 (by omega)) rfl) rfl rfl hl.1 rfl (lv_room (Nat.le_of_ble_eq_true rfl)) dX1_read_4 ⟨Nat.zero_le _, Nat.zero_le _⟩) hJ (fun g3 H locs hp hJ => ?_)
  obtain ⟨P5a, f4⟩ := hp
  have P5 : hg_Q (fun a b => ((a = 3 ∧ b = 1) ∨ a = 340 + cq ∨ a = 360 + cq)) g g3 := (hg_Q.le P5a (fun a b h9 => by have h9 : a = 340 + c2 := h9; show ((a = 3 ∧ b = 1) ∨ a = 340 + cq ∨ a = 360 + cq); omega))
  have qt6 : g3 3 0 = g 3 0 := P5a 3 0 (show ¬ (3 = 340 + c2) from by omega)
  have qt7 : g3 3 1 = g 3 1 := P5a 3 1 (show ¬ (3 = 340 + c2) from by omega)
  have hcc : c2 = cq := by omega
  have hc0 : hc_con g3 cq = hc_e := hc_mk_e (fun t ht => by rw [← hcc]; exact f4 t ht)
  refine hq_iconst hx hb dX1_read_7 (by decide) (by decide) (fun z8 ez8 => ?_)
  refine lv_istore_n (lv' := [(3, .int z8), (0, .ref h0), (1, .ref frame), (2, .int length)]) hx hb dX1_read_8 rfl hl (by decide) rfl (fun ls hl => ?_)
  refine hq_iconst hx hb dX1_read_9 (by decide) (by decide) (fun z9 ez9 => ?_)
  refine lv_istore (lv' := [(4, .int z9), (3, .int z8), (0, .ref h0), (1, .ref frame), (2, .int length)]) hx hb dX1_read_10 hl (by decide) rfl (fun ls hl => ?_)
  have lp13 : ∀ (nlp13 : Nat) (v10 : Int32) (v11 : Int32) (g12 : Nat → Nat → Int) (H : Heap) (locs : List Loc) (ls : Array Slot), (hg_Q (fun a b => ((a = 3 ∧ b = 1) ∨ a = 340 + cq ∨ a = 360 + cq)) g g12) → (0 ≤ v10.toInt) → (2 * v11.toInt ≤ v10.toInt ∧ v10.toInt ≤ 700) → (0 ≤ v11.toInt) → (v11.toInt ≤ 351) → (g12 3 0 = 320 + (cq : Int)) → (hq_P (g 12) length.toInt (351 - v11.toInt).toNat v10.toInt.toNat v11.toInt.toNat (hc_con g12 cq) (g12 3 1) = hq_P (g 12) length.toInt 351 0 0 hc_e (g 3 1)) → (352 - v11.toInt < (nlp13 : Int)) → he_J dC dI dA κ B g12 s.heap H locs → lv_has ls 10 [(0, .ref h0), (1, .ref frame), (2, .int length), (3, .int v10), (4, .int v11)] → W p l e (headSpec wsX1_read ({ frames := 4, cells := 0, slots := 0, locals := 88 } : Room)).room s m ([Value.ref h0, Value.ref frame, Value.int length] : List Value).toArray below meth c H locs 0 0 (MQ below (he_Qi dC dI dA κ B (fun r u => hg_Q (fun a b => ((a = 3 ∧ b = 1) ∨ a = 340 + cq ∨ a = 360 + cq)) g u ∧ (r.toInt = 0 ↔ (hq_P (g 12) length.toInt 351 0 0 hc_e (g 3 1)).1 = true) ∧ hc_con u cq = (hq_P (g 12) length.toInt 351 0 0 hc_e (g 3 1)).2.1 ∧ u 3 1 = (hq_P (g 12) length.toInt 351 0 0 hc_e (g 3 1)).2.2)) ([Value.ref h0, Value.ref frame, Value.int length] : List Value).toArray s 0 0 (hp_A B)) (F0 m 12 ls []) := by
    intro nlp13
    induction nlp13 with
    | zero => intro v10 v11 g12 H locs ls iv15 iv16 iv17 iv18 iv19 iv20 iv21 hm14 hJ hl; exact absurd hm14 (by omega)
    | succ nlp13 ihlp13 =>
      intro v10 v11 g12 H locs ls iv15 iv16 iv17 iv18 iv19 iv20 iv21 hm14 hJ hl
      refine lv_iload hx hb dX1_read_12 (lv_at hl 4 rfl) ?_
      refine hq_sipush hx hb dX1_read_14 (by decide) (fun z22 ez22 => ?_)
      refine hq_icmp_gt (tgt := 108) hx hb dX1_read_17 (by decide) (fun c23 => ?_) (fun c23 => ?_)
      · refine hq_iconst hx hb dX1_read_108 (by decide) (by decide) (fun z24 ez24 => ?_)
        have hR : (z24.toInt = 0 ↔ (hq_P (g 12) length.toInt 351 0 0 hc_e (g 3 1)).1 = true) ∧ hc_con g12 cq = (hq_P (g 12) length.toInt 351 0 0 hc_e (g 3 1)).2.1 ∧ g12 3 1 = (hq_P (g 12) length.toInt 351 0 0 hc_e (g 3 1)).2.2 := by
          rw [← iv21, show (351 - v11.toInt).toNat = 0 by omega, hq_P_z]
          exact ⟨⟨fun h9 => absurd h9 (by omega), fun h9 => by cases h9⟩, rfl, rfl⟩
        exact he_iret hx hb hK hN hW hlocks hJ hr ⟨iv15, hR⟩ dX1_read_109
      · refine lv_iload_n hx hb dX1_read_20 rfl (lv_at hl 2 rfl) ?_
        refine lv_iload_n hx hb dX1_read_21 rfl (lv_at hl 3 rfl) ?_
        refine hq_isub hx hb dX1_read_22 (by omega) (by omega) (fun x25 ex25 => ?_)
        refine hq_iconst hx hb dX1_read_23 (by decide) (by decide) (fun z26 ez26 => ?_)
        refine hq_isub hx hb dX1_read_24 (by omega) (by omega) (fun x27 ex27 => ?_)
        refine lv_istore (lv' := [(5, .int x27), (0, .ref h0), (1, .ref frame), (2, .int length), (3, .int v10), (4, .int v11)]) hx hb dX1_read_25 hl (by decide) rfl (fun ls hl => ?_)
        refine lv_iload hx hb dX1_read_27 (lv_at hl 0 rfl) ?_
        refine hq_if_ge (tgt := 34) hx hb dX1_read_29 (by decide) (fun c28 => ?_) (fun c28 => ?_)
        · refine lv_aload_n hx hb dX1_read_34 rfl (lv_at hl 2 rfl) ?_
          refine lv_iload_n hx hb dX1_read_35 rfl (lv_at hl 4 rfl) ?_
          refine he_calli (va_runS (As := [.ref frame, .int v10]) (rest := []) ⟨hx, hb, hml, hown, hts⟩ (e_X1_pairAt l dC dI dA κ B g12 frame kframe v10 (by omega)) (va_cwS 2 hts gX1_read_X1_pairAt rfl rfl rfl (by decide +kernel) ⟨Nat.le_of_ble_eq_true rfl, Nat.le_of_ble_eq_true rfl⟩) (he_preS [.ref frame, .int v10] hK hN hW hJ) rfl rfl hl.1 rfl (lv_room (Nat.le_of_ble_eq_true rfl)) dX1_read_36 ⟨Nat.zero_le _, Nat.zero_le _⟩) hJ (fun x30 g29 H locs hp hJ => ?_)
          obtain ⟨rfl, f31⟩ := hp
          refine lv_istore (lv' := [(6, .int x30), (5, .int x27), (0, .ref h0), (1, .ref frame), (2, .int length), (3, .int v10), (4, .int v11)]) hx hb dX1_read_39 hl (by decide) rfl (fun ls hl => ?_)
          refine lv_iload hx hb dX1_read_41 (lv_at hl 0 rfl) ?_
          refine hq_bipush hx hb dX1_read_43 (by decide) (fun z32 ez32 => ?_)
          refine hq_ishr9 hx hb dX1_read_45 ez32 (by omega) (by omega) (fun x33 ex33 => ?_)
          refine lv_istore (lv' := [(7, .int x33), (6, .int x30), (5, .int x27), (0, .ref h0), (1, .ref frame), (2, .int length), (3, .int v10), (4, .int v11)]) hx hb dX1_read_46 hl (by decide) rfl (fun ls hl => ?_)
          refine lv_iload hx hb dX1_read_48 (lv_at hl 1 rfl) ?_
          refine hq_sipush hx hb dX1_read_50 (by decide) (fun z34 ez34 => ?_)
          refine hq_iand511 hx hb dX1_read_53 ez34 (fun x35 ex35 => ?_)
          refine lv_istore (lv' := [(8, .int x35), (7, .int x33), (6, .int x30), (5, .int x27), (0, .ref h0), (1, .ref frame), (2, .int length), (3, .int v10), (4, .int v11)]) hx hb dX1_read_54 hl (by decide) rfl (fun ls hl => ?_)
          have hA : g12 12 v10.toInt.toNat = g 12 v10.toInt.toNat := iv15 12 _ (fun h8 => by have h8 : ((12 = 3 ∧ v10.toInt.toNat = 1) ∨ 12 = 340 + cq ∨ 12 = 360 + cq) := h8; omega)
          have hB : g12 12 (v10.toInt.toNat + 1) = g 12 (v10.toInt.toNat + 1) := iv15 12 _ (fun h8 => by have h8 : ((12 = 3 ∧ v10.toInt.toNat + 1 = 1) ∨ 12 = 340 + cq ∨ 12 = 360 + cq) := h8; omega)
          have hty : hq_t (g 12) v10.toInt.toNat = x33.toInt.toNat := by unfold hq_t; omega
          have hnn : hq_n (g 12) v10.toInt.toNat = x35.toInt.toNat := by unfold hq_n; omega
          refine lv_aload_n hx hb dX1_read_56 rfl (lv_at hl 4 rfl) ?_
          refine lv_iload hx hb dX1_read_57 (lv_at hl 8 rfl) ?_
          refine lv_iload hx hb dX1_read_59 (lv_at hl 1 rfl) ?_
          refine lv_iload hx hb dX1_read_61 (lv_at hl 0 rfl) ?_
          refine lv_iload hx hb dX1_read_63 (lv_at hl 3 rfl) ?_
          refine he_calli (va_runV (As := [.int v11, .int x33, .int x35, .int x27]) (rest := []) ⟨hx, hb, hml, hown, hts⟩ (e_X1_faultOfPartX l dC dI dA κ B g12 (cq) (by omega) h0 k0 v11 x33 x35 x27 (by omega) (by omega) (by omega) (by omega) (by omega)) (cwV 4 hts gX1_read_X1_faultOfPart rfl rfl rfl (by decide +kernel) ⟨Nat.le_of_ble_eq_true rfl, Nat.le_of_ble_eq_true rfl⟩) (he_preV (q := (RX1, TX1, 2)) [.int v11, .int x33, .int x35, .int x27] hK hN hW hJ k0 rfl rfl) rfl rfl hl.1 rfl (lv_room (Nat.le_of_ble_eq_true rfl)) dX1_read_65 ⟨Nat.zero_le _, Nat.zero_le _⟩) hJ (fun x37 g36 H locs hp hJ => ?_)
          obtain ⟨rfl, f38⟩ := hp
          have hok : hm_if0 x37.toInt (hq_ok v11.toInt.toNat (hq_t (g 12) v10.toInt.toNat) (hq_n (g 12) v10.toInt.toNat) (length.toInt - v10.toInt.toNat - 2) ((hc_con g12 cq).1 (hq_t (g 12) v10.toInt.toNat))) := by
            unfold hm_if0
            rw [hty, hnn, hq_ok_sz (sz := (hc_con g12 cq).1 x33.toInt.toNat) (sz' := g12 (340 + cq) x33.toInt.toNat) (fun h9 => hc_con_1 (by omega)), show length.toInt - (v10.toInt.toNat : Int) - 2 = x27.toInt by omega]
            exact f38.2.2
          have hr04 : 0 ≤ x37.toInt ∧ x37.toInt ≤ 4 := ⟨f38.1, f38.2.1⟩
          clear f38
          have hne9 : ¬ length.toInt < (v10.toInt.toNat : Int) + 2 := by omega
          have hm1 : (351 - v11.toInt).toNat = (350 - v11.toInt).toNat + 1 := by omega
          refine lv_istore (lv' := [(9, .int x37), (8, .int x35), (7, .int x33), (6, .int x30), (5, .int x27), (0, .ref h0), (1, .ref frame), (2, .int length), (3, .int v10), (4, .int v11)]) hx hb dX1_read_68 hl (by decide) rfl (fun ls hl => ?_)
          refine lv_iload hx hb dX1_read_70 (lv_at hl 0 rfl) ?_
          refine hq_if_ne (tgt := 80) hx hb dX1_read_72 (by decide) (fun c39 => ?_) (fun c39 => ?_)
          · have hbad : ¬ hq_ok v11.toInt.toNat (hq_t (g 12) v10.toInt.toNat) (hq_n (g 12) v10.toInt.toNat) (length.toInt - v10.toInt.toNat - 2) ((hc_con g12 cq).1 (hq_t (g 12) v10.toInt.toNat)) := fun h9 => absurd (hok.mpr h9) (by omega)
            refine lv_iload hx hb dX1_read_80 (lv_at hl 0 rfl) ?_
            have hR : (x37.toInt = 0 ↔ (hq_P (g 12) length.toInt 351 0 0 hc_e (g 3 1)).1 = true) ∧ hc_con g12 cq = (hq_P (g 12) length.toInt 351 0 0 hc_e (g 3 1)).2.1 ∧ g12 3 1 = (hq_P (g 12) length.toInt 351 0 0 hc_e (g 3 1)).2.2 := by
              first
              | (rw [← iv21, hq_P_bad hbad]; exact ⟨⟨fun h9 => absurd h9 (by omega), fun h9 => by cases h9⟩, rfl, rfl⟩)
              | (rw [← iv21, hm1, hq_P_0 hne9 (hok.mp (by omega)) (by rw [hty]; omega)]; exact ⟨⟨fun _ => rfl, fun _ => by omega⟩, rfl, rfl⟩)
            exact he_iret hx hb hK hN hW hlocks hJ hr ⟨iv15, hR⟩ dX1_read_82
          · refine lv_iload hx hb dX1_read_75 (lv_at hl 2 rfl) ?_
            refine hq_if_ne (tgt := 83) hx hb dX1_read_77 (by decide) (fun c40 => ?_) (fun c40 => ?_)
            · refine lv_aload_n hx hb dX1_read_83 rfl (lv_at hl 5 rfl) ?_
              refine lv_iload hx hb dX1_read_84 (lv_at hl 2 rfl) ?_
              refine lv_aload_n hx hb dX1_read_86 rfl (lv_at hl 6 rfl) ?_
              refine lv_iload_n hx hb dX1_read_87 rfl (lv_at hl 8 rfl) ?_
              refine hq_iconst hx hb dX1_read_88 (by decide) (by decide) (fun z41 ez41 => ?_)
              refine hq_iadd hx hb dX1_read_89 (by omega) (by omega) (fun x42 ex42 => ?_)
              refine lv_iload hx hb dX1_read_90 (lv_at hl 1 rfl) ?_
              have hokk := hok.mp (by omega)
              have h25 : x35.toInt + v10.toInt + 2 ≤ length.toInt := by
                have h9 := hokk.2.2.1
                rw [hnn] at h9
                omega
              have h60 := hq_ok_60 hokk
              have h2o := hq_ok_2 hokk
              rw [hty, hnn] at h60 h2o
              refine he_callv (va_runV (As := [.int x33, .ref frame, .int x42, .int x35]) (rest := []) ⟨hx, hb, hml, hown, hts⟩ (e_X1_takePartX l dC dI dA κ B g12 (cq) (by omega) h0 k0 x33 frame kframe x42 x35 (by omega) (by omega) (by omega) (by omega) (fun h9 => by have h8 := h60 (by omega); clear h60 h2o; omega) (fun h9 => by have h8 := h2o (by omega); clear h60 h2o; omega) (by omega)) (cwV 4 hts gX1_read_X1_takePart rfl rfl rfl (by decide +kernel) ⟨Nat.le_of_ble_eq_true rfl, Nat.le_of_ble_eq_true rfl⟩) (he_preV (q := (RX1, TX1, 2)) [.int x33, .ref frame, .int x42, .int x35] hK hN hW hJ k0 rfl rfl) rfl rfl hl.1 rfl (lv_room (Nat.le_of_ble_eq_true rfl)) dX1_read_92 ⟨Nat.zero_le _, Nat.zero_le _⟩) hJ (fun g43 H locs hp hJ => ?_)
              obtain ⟨P45a, f44⟩ := hp
              have P45 : hg_Q (fun a b => ((a = 3 ∧ b = 1) ∨ a = 340 + cq ∨ a = 360 + cq)) g g43 := hg_Q.tr iv15 (hg_Q.le P45a (fun a b h9 => by have h9 : ((a = 3 ∧ b = 1) ∨ a = 340 + cq ∨ a = 360 + cq) := h9; show ((a = 3 ∧ b = 1) ∨ a = 340 + cq ∨ a = 360 + cq); omega))
              have qt46 : g43 3 0 = g12 3 0 := P45a 3 0 (show ¬ (((3 = 3 ∧ 0 = 1) ∨ 3 = 340 + cq ∨ 3 = 360 + cq)) from by omega)
              clear h60 h2o
              have hstep : hq_P (g 12) length.toInt (350 - v11.toInt).toNat (v10.toInt.toNat + 2 + x35.toInt.toNat) (v11.toInt.toNat + 1) (hc_con g43 cq) (g43 3 1) = hq_P (g 12) length.toInt 351 0 0 hc_e (g 3 1) := by
                have hfun : (fun k => g12 12 (x42.toInt.toNat + k)) = (fun k => g 12 (v10.toInt.toNat + 2 + k)) := by
                  funext k
                  rw [show x42.toInt.toNat + k = v10.toInt.toNat + 2 + k by omega]
                  exact iv15 12 _ (fun h8 => by have h8 : ((12 = 3 ∧ v10.toInt.toNat + 2 + k = 1) ∨ 12 = 340 + cq ∨ 12 = 360 + cq) := h8; omega)
                have hhh : hq_h (g12 12) x42.toInt.toNat = hq_h (g 12) (v10.toInt.toNat + 2) := by
                  have q0 := congrFun hfun 0
                  have q1 := congrFun hfun 1
                  unfold hq_h
                  rw [show x42.toInt.toNat + 1 = x42.toInt.toNat + 1 from rfl]
                  have q0 : g12 12 (x42.toInt.toNat + 0) = g 12 (v10.toInt.toNat + 2 + 0) := q0
                  have q1 : g12 12 (x42.toInt.toNat + 1) = g 12 (v10.toInt.toNat + 2 + 1) := q1
                  rw [Nat.add_zero, Nat.add_zero] at q0
                  rw [q0, q1]
                rw [← iv21, hm1]
                rcases (show x33.toInt = 3 ∨ (x33.toInt ≠ 3 ∧ x33.toInt < 9) ∨ 9 ≤ x33.toInt by omega) with h9 | h9 | h9
                · rw [hq_P_3 hne9 hokk (by rw [hty]; omega), hnn, (f44.1 h9).1, (f44.1 h9).2, hhh]
                · have h8 := f44.2.1 (by omega)
                  rw [hq_P_k hne9 hokk (by rw [hty]; omega) (by rw [hty]; omega) (by rw [hty]; omega), hnn, hty, h8.1, h8.2, hfun]
                · have h8 := f44.2.2 h9
                  rw [hq_P_9 hne9 hokk (by rw [hty]; omega), hnn, h8.1, h8.2]
              refine lv_iload_n hx hb dX1_read_95 rfl (lv_at hl 8 rfl) ?_
              refine hq_iconst hx hb dX1_read_96 (by decide) (by decide) (fun z47 ez47 => ?_)
              refine lv_iload hx hb dX1_read_97 (lv_at hl 1 rfl) ?_
              refine hq_iadd hx hb dX1_read_99 (by omega) (by omega) (fun x48 ex48 => ?_)
              refine hq_iadd hx hb dX1_read_100 (by omega) (by omega) (fun x49 ex49 => ?_)
              refine lv_istore_n (lv' := [(3, .int x49), (9, .int x37), (8, .int x35), (7, .int x33), (6, .int x30), (5, .int x27), (0, .ref h0), (1, .ref frame), (2, .int length), (4, .int v11)]) hx hb dX1_read_101 rfl hl (by decide) rfl (fun ls hl => ?_)
              refine hq_iinc (k := 9) (lv' := fun (z9 : Int32) => [(4, .int z9), (3, .int x49), (9, .int x37), (8, .int x35), (7, .int x33), (6, .int x30), (5, .int x27), (0, .ref h0), (1, .ref frame), (2, .int length)]) hx hb dX1_read_102 hl rfl (by decide) (by decide) (by omega) (by omega) (by decide) (fun _ => rfl) (fun x50 ls ex50 hl => ?_)
              have hl : lv_has ls 10 [(4, .int x50), (3, .int x49), (9, .int x37), (8, .int x35), (7, .int x33), (6, .int x30), (5, .int x27), (0, .ref h0), (1, .ref frame), (2, .int length)] := hl
              refine lv_goto (tgt := 12) hx hb dX1_read_105 (by decide) ?_
              exact ihlp13 x49 x50 g43 _ _ ls P45 (by omega) (by omega) (by omega) (by omega) (by omega) (by rw [show (351 - x50.toInt).toNat = (350 - v11.toInt).toNat by omega, show x49.toInt.toNat = v10.toInt.toNat + 2 + x35.toInt.toNat by omega, show x50.toInt.toNat = v11.toInt.toNat + 1 by omega]; exact hstep) (by omega) hJ (lv_sub hl [7, 8, 9, 1, 0] rfl)
            · refine lv_iload hx hb dX1_read_80 (lv_at hl 0 rfl) ?_
              have hR : (x37.toInt = 0 ↔ (hq_P (g 12) length.toInt 351 0 0 hc_e (g 3 1)).1 = true) ∧ hc_con g12 cq = (hq_P (g 12) length.toInt 351 0 0 hc_e (g 3 1)).2.1 ∧ g12 3 1 = (hq_P (g 12) length.toInt 351 0 0 hc_e (g 3 1)).2.2 := by
                first
                | (rw [← iv21, hq_P_bad hbad]; exact ⟨⟨fun h9 => absurd h9 (by omega), fun h9 => by cases h9⟩, rfl, rfl⟩)
                | (rw [← iv21, hm1, hq_P_0 hne9 (hok.mp (by omega)) (by rw [hty]; omega)]; exact ⟨⟨fun _ => rfl, fun _ => by omega⟩, rfl, rfl⟩)
              exact he_iret hx hb hK hN hW hlocks hJ hr ⟨iv15, hR⟩ dX1_read_82
        · refine hq_iconst hx hb dX1_read_32 (by decide) (by decide) (fun z51 ez51 => ?_)
          have hR : (z51.toInt = 0 ↔ (hq_P (g 12) length.toInt 351 0 0 hc_e (g 3 1)).1 = true) ∧ hc_con g12 cq = (hq_P (g 12) length.toInt 351 0 0 hc_e (g 3 1)).2.1 ∧ g12 3 1 = (hq_P (g 12) length.toInt 351 0 0 hc_e (g 3 1)).2.2 := by
            rw [← iv21, hq_P_end (by omega)]
            exact ⟨⟨fun h9 => absurd h9 (by omega), fun h9 => by cases h9⟩, rfl, rfl⟩
          exact he_iret hx hb hK hN hW hlocks hJ hr ⟨iv15, hR⟩ dX1_read_33
  exact lp13 ((352 - z9.toInt).toNat + 1) z8 z9 g3 _ _ ls P5 (by omega) (by omega) (by omega) (by omega) (by omega) (by rw [show (351 - z9.toInt).toNat = 351 by omega, show z8.toInt.toNat = 0 by omega, show z9.toInt.toNat = 0 by omega, hc0, P5a 3 1 (fun h8 => by have h8 : 3 = 340 + c2 := h8; omega)]) (by omega) hJ (lv_sub hl [2, 3, 4, 1, 0] rfl)
