set_option maxRecDepth 100000 in
set_option maxHeartbeats 8000000 in
theorem law_type {p : Program} {l : Launch} {e : Env} {s : State} {m : MethodId} {below : List Frame} {meth : Method} {c : Code} {dC : Nat → ClassId} {dI : Nat → Nat → Nat} {dA : Nat → ClassId} {κ : Nat → Nat} {B b L x mo k : Nat} {xs : Nat → Int32} {v : Int32} {g : Nat → Nat → Int} {H : Heap} {locs : List Loc} {ls : Array Slot} (hL : L ≤ 2048) (hx : p.tables.exec = Jvm.exec) (hb : c.code = cL_law) (hml : c.maxLocals = 4) (hown : s.vm.findClass RL = some m.cls) (hts : ∀ w ∈ wsL_law, w.before #[Value.ref b] s = true) (hX : va_X b L xs s s.heap) (hbl : b < s.heap.size) (hbA : ¬ hp_A B b) (hK : va_K (dC, dI) vwCl (hp_ty dA) s) (hN : hp_N s) (hW : hp_W κ B) (kx : κ x = 1) (km : κ mo = 11) (hv : v.toInt = (k : Int)) (hkL : k + 4 ≤ L) (hEg : hg_E g) (hJ : he_J dC dI dA κ B g s.heap H locs) (hl : lv_has ls 4 [(0, .ref b), (1, .ref x), (2, .ref mo), (3, .int v)])
    (nxt : ∀ (g' : Nat → Nat → Int) (H : Heap) (locs : List Loc) (ls : Array Slot), hg_E g' → he_J dC dI dA κ B g' s.heap H locs → lv_has ls 4 [(0, .ref b), (1, .ref x), (2, .ref mo), (3, .int v)] → W p l e room_1 s m #[Value.ref b] below meth c H locs 600000 7302250 (lw_Z below #[Value.ref b] s) (F0 m 462 ls [])) : W p l e room_1 s m #[Value.ref b] below meth c H locs 600000 7302250 (lw_Z below #[Value.ref b] s) (F0 m 96 ls []) := by
  obtain ⟨⟨hwg, hig, hjg, hlg⟩, htab, htc, hty, hup, hhd, h03⟩ := id hEg
  have hszg := he_msz hJ km
  have hkng := he_m13 hJ km
  refine lv_aload_n hx hb dL_law_96 rfl (lv_at hl 1 rfl) ?_
  refine lv_aload_n hx hb dL_law_97 rfl (lv_at hl 0 rfl) ?_
  refine lv_iload_n hx hb dL_law_98 rfl (lv_at hl 3 rfl) ?_
  refine hq_iconst hx hb dL_law_99 (by decide) (by decide) (fun z1 ez1 => ?_)
  refine hq_iadd hx hb dL_law_100 (by omega) (by omega) (fun w2 ew2 => ?_)
  refine va_sld hx hb hX hbl hbA hJ.2 (hi_in (by omega) (by omega)) dL_law_101 ?_
  refine lv_topi (fun y3 fy3 => ?_)
  have ey3 : y3 = xs (k + 1) := by rw [fy3, show w2.toNatClampNeg = k + 1 by have := hi_cl (x := w2) (by omega); omega]
  refine lv_i2l hx hb dL_law_102 rfl ?_
  refine hq_bipush hx hb dL_law_103 (by decide) (fun z4 ez4 => ?_)
  refine lv_lshl hx hb dL_law_105 rfl ?_
  refine lv_topl (fun a5 fa5 => ?_)
  refine lv_aload_n hx hb dL_law_106 rfl (lv_at hl 0 rfl) ?_
  refine lv_iload_n hx hb dL_law_107 rfl (lv_at hl 3 rfl) ?_
  refine hq_iconst hx hb dL_law_108 (by decide) (by decide) (fun z6 ez6 => ?_)
  refine hq_iadd hx hb dL_law_109 (by omega) (by omega) (fun w7 ew7 => ?_)
  refine va_sld hx hb hX hbl hbA hJ.2 (hi_in (by omega) (by omega)) dL_law_110 ?_
  refine lv_topi (fun y8 fy8 => ?_)
  have ey8 : y8 = xs (k + 2) := by rw [fy8, show w7.toNatClampNeg = k + 2 by have := hi_cl (x := w7) (by omega); omega]
  refine lv_i2l hx hb dL_law_111 rfl ?_
  refine lv_ldc2 hx hb hown (hts (.constantLong RL 13 (4294967295)) (List.mem_of_getElem? (i := 6) rfl)) dL_law_112 ?_
  refine lv_land hx hb dL_law_115 ?_
  refine lv_lor hx hb dL_law_116 ?_
  refine lv_topl (fun a9 fa9 => ?_)
  refine lv_aload_n hx hb dL_law_117 rfl (lv_at hl 0 rfl) ?_
  refine lv_iload_n hx hb dL_law_118 rfl (lv_at hl 3 rfl) ?_
  refine hq_iconst hx hb dL_law_119 (by decide) (by decide) (fun z10 ez10 => ?_)
  refine hq_iadd hx hb dL_law_120 (by omega) (by omega) (fun w11 ew11 => ?_)
  refine va_sld hx hb hX hbl hbA hJ.2 (hi_in (by omega) (by omega)) dL_law_121 ?_
  refine lv_topi (fun y12 fy12 => ?_)
  have ey12 : y12 = xs (k + 3) := by rw [fy12, show w11.toNatClampNeg = k + 3 by have := hi_cl (x := w11) (by omega); omega]
  refine he_calli (va_runV (As := [.long a9, .int y12]) (rest := []) ⟨hx, hb, hml, hown, hts⟩ (e_X6_typeX l dC dI dA κ B g x kx a9 y12) (cwV 2 hts gL_law_X6_type rfl rfl rfl (by decide +kernel) ⟨Nat.le_of_ble_eq_true rfl, Nat.le_of_ble_eq_true rfl⟩) (he_preV (q := (RX6, TX6, 12)) [.long a9, .int y12] hK hN hW hJ kx rfl rfl) rfl rfl hl.1 rfl (lv_room (Nat.le_of_ble_eq_true rfl)) dL_law_122 ⟨(by show 600000 + 0 ≤ 600000; omega), (by show 7302250 + 0 ≤ 7302250; omega)⟩) hJ (fun r13 g14 H locs hp hJ => ?_)
  obtain ⟨Pg14, fg14⟩ := hp
  have Qg14 : ∀ a b : Nat, ¬ ((a = 1 ∧ b = 1) ∨ a = 12) → g14 a b = g a b := fun a b h9 => Pg14 a b h9
  refine lv_pop hx hb dL_law_125 rfl ?_
  have hmT : hm_tab g14 = hm_tab g := hm_tab_same hszg hkng.2 (Qg14 11 13 (by omega)) (fun a b h9 => Qg14 a b (by omega))
  have m27 : g14 27 12 = g 27 12 := Qg14 27 12 (by omega)
  have m20 : ∀ j : Nat, g14 20 j = g 20 j := fun j => Qg14 20 j (by omega)
  have m11 : g14 11 1 = g 11 1 := Qg14 11 1 (by omega)
  have m38 : ∀ i : Nat, g14 38 i = g 38 i := fun i => Qg14 38 i (by omega)
  have hlg14 : 0 ≤ g14 27 12 ∧ g14 27 12 ≤ 65535 := by omega
  have hjg14 : hr_inv (hm_tab g14) (fun q => g 20 q) := by rw [hmT]; exact hjg
  refine lv_aload_n hx hb dL_law_126 rfl (lv_at hl 2 rfl) ?_
  refine lv_aload_n hx hb dL_law_127 rfl (lv_at hl 0 rfl) ?_
  refine lv_iload_n hx hb dL_law_128 rfl (lv_at hl 3 rfl) ?_
  refine hq_iconst hx hb dL_law_129 (by decide) (by decide) (fun z15 ez15 => ?_)
  refine hq_iadd hx hb dL_law_130 (by omega) (by omega) (fun w16 ew16 => ?_)
  refine va_sld hx hb hX hbl hbA hJ.2 (hi_in (by omega) (by omega)) dL_law_131 ?_
  refine lv_topi (fun y17 fy17 => ?_)
  have ey17 : y17 = xs (k + 1) := by rw [fy17, show w16.toNatClampNeg = k + 1 by have := hi_cl (x := w16) (by omega); omega]
  refine lv_i2l hx hb dL_law_132 rfl ?_
  refine hq_bipush hx hb dL_law_133 (by decide) (fun z18 ez18 => ?_)
  refine lv_lshl hx hb dL_law_135 rfl ?_
  refine lv_topl (fun a19 fa19 => ?_)
  refine lv_aload_n hx hb dL_law_136 rfl (lv_at hl 0 rfl) ?_
  refine lv_iload_n hx hb dL_law_137 rfl (lv_at hl 3 rfl) ?_
  refine hq_iconst hx hb dL_law_138 (by decide) (by decide) (fun z20 ez20 => ?_)
  refine hq_iadd hx hb dL_law_139 (by omega) (by omega) (fun w21 ew21 => ?_)
  refine va_sld hx hb hX hbl hbA hJ.2 (hi_in (by omega) (by omega)) dL_law_140 ?_
  refine lv_topi (fun y22 fy22 => ?_)
  have ey22 : y22 = xs (k + 2) := by rw [fy22, show w21.toNatClampNeg = k + 2 by have := hi_cl (x := w21) (by omega); omega]
  refine lv_i2l hx hb dL_law_141 rfl ?_
  refine lv_ldc2 hx hb hown (hts (.constantLong RL 13 (4294967295)) (List.mem_of_getElem? (i := 6) rfl)) dL_law_142 ?_
  refine lv_land hx hb dL_law_145 ?_
  refine lv_lor hx hb dL_law_146 ?_
  refine lv_topl (fun a23 fa23 => ?_)
  refine lv_aload_n hx hb dL_law_147 rfl (lv_at hl 0 rfl) ?_
  refine lv_iload_n hx hb dL_law_148 rfl (lv_at hl 3 rfl) ?_
  refine hq_iconst hx hb dL_law_149 (by decide) (by decide) (fun z24 ez24 => ?_)
  refine hq_iadd hx hb dL_law_150 (by omega) (by omega) (fun w25 ew25 => ?_)
  refine va_sld hx hb hX hbl hbA hJ.2 (hi_in (by omega) (by omega)) dL_law_151 ?_
  refine lv_topi (fun y26 fy26 => ?_)
  have ey26 : y26 = xs (k + 3) := by rw [fy26, show w25.toNatClampNeg = k + 3 by have := hi_cl (x := w25) (by omega); omega]
  have qwa23 : a9 = a23 := by
    rw [fa9, fa23, fa5, fa19, show z4 = z18 from hi_eq.mpr (by rw [ez4, ez18]), ey3, ey17, ey8, ey22]
  subst qwa23
  have qy26 : y12 = y26 := by rw [ey12, ey26]
  subst qy26
  refine he_calli (va_runV (As := [.long a9, .int y12]) (rest := []) ⟨hx, hb, hml, hown, hts⟩ (e_X7_typeX l dC dI dA κ B g14 mo km a9 y12) (cwV 2 hts gL_law_X7_type rfl rfl rfl (by decide +kernel) ⟨Nat.le_of_ble_eq_true rfl, Nat.le_of_ble_eq_true rfl⟩) (he_preV (q := (RX7, TX7, 24)) [.long a9, .int y12] hK hN hW hJ km rfl rfl) rfl rfl hl.1 rfl (lv_room (Nat.le_of_ble_eq_true rfl)) dL_law_152 ⟨(by show 600000 + 0 ≤ 600000; omega), (by show 7302250 + 0 ≤ 7302250; omega)⟩) hJ (fun r27 g28 H locs hp hJ => ?_)
  obtain ⟨Pg28, fg28⟩ := hp
  have Qg28 : ∀ a b : Nat, ¬ ((a = 11 ∧ b = 1) ∨ a = 38) → g28 a b = g14 a b := fun a b h9 => Pg28 a b h9
  refine lv_pop hx hb dL_law_155 rfl ?_
  have hc9 : ∀ a b : Nat, ¬ (a = 11 ∨ (18 ≤ a ∧ a < 40)) → g28 a b = g14 a b := fun a b h9 => Qg28 a b (by omega)
  have c11 : g28 1 1 = g14 1 1 := hc9 1 1 (by omega)
  have c31 : g28 3 1 = g14 3 1 := hc9 3 1 (by omega)
  have c12 : ∀ i : Nat, g28 12 i = g14 12 i := fun i => hc9 12 i (by omega)
  have c5 : ∀ j : Nat, j < 4 → g28 (5 + j) 0 = g14 (5 + j) 0 := fun j hj => hc9 (5 + j) 0 (by omega)
  obtain ⟨tc1, hw1⟩ := hc_tab_same hwg (u := g14) (fun a b q => Qg14 a b (by unfold hc_f at q; omega))
  obtain ⟨tc2, hw2⟩ := (hc_tab_same (u := g28) hw1 (fun a b q => hc9 a b (by unfold hc_f at q; omega)))
  have hszh : hm_sz g14 := fun k hk => by rw [Qg14 30 k (by omega)]; exact hszg k hk
  have tm2 : hm_tab g28 = hm_tab g14 := hm_tab_same hszh (by rw [Qg14 11 13 (by omega)]; exact hkng.2) (Qg28 11 13 (by omega)) (fun a b h9 => Qg28 a b (by omega))
  have htt : g28 1 1 = g28 11 1 ∧ ∀ i : Nat, (i : Int) < g28 1 1 → g28 12 i = g28 38 i := by
    rcases fg14 with ⟨cA, cB, cC, cD⟩ | ⟨cA, cB⟩
    · rcases fg28 with ⟨dA9, dB, dC9, dD⟩ | ⟨dA9, dB⟩
      · refine ⟨by omega, fun i hi => ?_⟩
        rw [c12 i]
        by_cases h9 : (i : Int) < g 1 1
        · rw [cD i h9, dD i (by omega), m38 i]; exact hty i h9
        · have q1 := cC (i - (g 1 1).toNat) (by omega)
          have q2 := dC9 (i - (g 1 1).toNat) (by omega)
          rw [show (g 1 1).toNat + (i - (g 1 1).toNat) = i by omega] at q1
          rw [show (g14 11 1).toNat + (i - (g 1 1).toNat) = i by omega] at q2
          rw [q1, q2]
          exact hb_eq _ (by omega) (by omega)
      · exact absurd (show 1 ≤ y12.toInt ∧ y12.toInt ≤ 8 ∧ g14 11 1 + y12.toInt ≤ 700 by omega) dA9
    · rcases fg28 with ⟨dA9, dB, dC9, dD⟩ | ⟨dA9, dB⟩
      · exact absurd (show 1 ≤ y12.toInt ∧ y12.toInt ≤ 8 ∧ g 1 1 + y12.toInt ≤ 700 by omega) cA
      · rw [← dB, ← cB]; exact ⟨htc, hty⟩
  have hE9 : hg_E g28 := hE_keep hEg (tc2.trans tc1) hw2 (tm2.trans hmT) (fun j hj => (c5 j hj).trans (Qg14 (5 + j) 0 (by omega))) (fun j => (Qg28 20 j (by omega)).trans (m20 j)) (c31.trans (Qg14 3 1 (by omega))) ((Qg28 27 12 (by omega)).trans m27) htt.1 htt.2
  refine lv_goto (tgt := 462) hx hb dL_law_156 (by decide) ?_
  exact nxt g28 _ _ ls hE9 hJ (lv_sub hl [0, 1, 2, 3] rfl)
set_option maxRecDepth 100000 in
set_option maxHeartbeats 8000000 in
theorem law_tell {p : Program} {l : Launch} {e : Env} {s : State} {m : MethodId} {below : List Frame} {meth : Method} {c : Code} {dC : Nat → ClassId} {dI : Nat → Nat → Nat} {dA : Nat → ClassId} {κ : Nat → Nat} {B b L x mo k : Nat} {xs : Nat → Int32} {v : Int32} {g : Nat → Nat → Int} {H : Heap} {locs : List Loc} {ls : Array Slot} (hL : L ≤ 2048) (hx : p.tables.exec = Jvm.exec) (hb : c.code = cL_law) (hml : c.maxLocals = 4) (hown : s.vm.findClass RL = some m.cls) (hts : ∀ w ∈ wsL_law, w.before #[Value.ref b] s = true) (hX : va_X b L xs s s.heap) (hbl : b < s.heap.size) (hbA : ¬ hp_A B b) (hK : va_K (dC, dI) vwCl (hp_ty dA) s) (hN : hp_N s) (hW : hp_W κ B) (kx : κ x = 1) (km : κ mo = 11) (hv : v.toInt = (k : Int)) (hkL : k + 4 ≤ L) (hEg : hg_E g) (hJ : he_J dC dI dA κ B g s.heap H locs) (hl : lv_has ls 4 [(0, .ref b), (1, .ref x), (2, .ref mo), (3, .int v)])
    (nxt : ∀ (g' : Nat → Nat → Int) (H : Heap) (locs : List Loc) (ls : Array Slot), hg_E g' → he_J dC dI dA κ B g' s.heap H locs → lv_has ls 4 [(0, .ref b), (1, .ref x), (2, .ref mo), (3, .int v)] → W p l e room_1 s m #[Value.ref b] below meth c H locs 600000 7302250 (lw_Z below #[Value.ref b] s) (F0 m 462 ls [])) : W p l e room_1 s m #[Value.ref b] below meth c H locs 600000 7302250 (lw_Z below #[Value.ref b] s) (F0 m 159 ls []) := by
  obtain ⟨⟨hwg, hig, hjg, hlg⟩, htab, htc, hty, hup, hhd, h03⟩ := id hEg
  have hszg := he_msz hJ km
  have hkng := he_m13 hJ km
  refine lv_aload_n hx hb dL_law_159 rfl (lv_at hl 1 rfl) ?_
  refine lv_aload_n hx hb dL_law_160 rfl (lv_at hl 0 rfl) ?_
  refine lv_iload_n hx hb dL_law_161 rfl (lv_at hl 3 rfl) ?_
  refine hq_iconst hx hb dL_law_162 (by decide) (by decide) (fun z1 ez1 => ?_)
  refine hq_iadd hx hb dL_law_163 (by omega) (by omega) (fun w2 ew2 => ?_)
  refine va_sld hx hb hX hbl hbA hJ.2 (hi_in (by omega) (by omega)) dL_law_164 ?_
  refine lv_topi (fun y3 fy3 => ?_)
  have ey3 : y3 = xs (k + 1) := by rw [fy3, show w2.toNatClampNeg = k + 1 by have := hi_cl (x := w2) (by omega); omega]
  refine he_calli (va_runV (As := [.int y3]) (rest := []) ⟨hx, hb, hml, hown, hts⟩ (e_X6_tellX l dC dI dA κ B g x kx y3) (cwV 1 hts gL_law_X6_tell rfl rfl rfl (by decide +kernel) ⟨Nat.le_of_ble_eq_true rfl, Nat.le_of_ble_eq_true rfl⟩) (he_preV (q := (RX6, TX6, 12)) [.int y3] hK hN hW hJ kx rfl rfl) rfl rfl hl.1 rfl (lv_room (Nat.le_of_ble_eq_true rfl)) dL_law_165 ⟨(by show 600000 + 0 ≤ 600000; omega), (by show 7302250 + 0 ≤ 7302250; omega)⟩) hJ (fun r4 g5 H locs hp hJ => ?_)
  obtain ⟨Pg5, fg5⟩ := hp
  have Qg5 : ∀ a b : Nat, ¬ ((5 ≤ a ∧ a < 9 ∧ b ≠ 0) ∨ a = 353 ∨ a = 373 ∨ (a = 1 ∧ b = 1)) → g5 a b = g a b := fun a b h9 => Pg5 a b h9
  refine lv_pop hx hb dL_law_168 rfl ?_
  have hmT : hm_tab g5 = hm_tab g := hm_tab_same hszg hkng.2 (Qg5 11 13 (by omega)) (fun a b h9 => Qg5 a b (by omega))
  have m27 : g5 27 12 = g 27 12 := Qg5 27 12 (by omega)
  have m20 : ∀ j : Nat, g5 20 j = g 20 j := fun j => Qg5 20 j (by omega)
  have m11 : g5 11 1 = g 11 1 := Qg5 11 1 (by omega)
  have m38 : ∀ i : Nat, g5 38 i = g 38 i := fun i => Qg5 38 i (by omega)
  have hlg5 : 0 ≤ g5 27 12 ∧ g5 27 12 ≤ 65535 := by omega
  have hjg5 : hr_inv (hm_tab g5) (fun q => g 20 q) := by rw [hmT]; exact hjg
  refine lv_aload_n hx hb dL_law_169 rfl (lv_at hl 2 rfl) ?_
  refine lv_aload_n hx hb dL_law_170 rfl (lv_at hl 0 rfl) ?_
  refine lv_iload_n hx hb dL_law_171 rfl (lv_at hl 3 rfl) ?_
  refine hq_iconst hx hb dL_law_172 (by decide) (by decide) (fun z6 ez6 => ?_)
  refine hq_iadd hx hb dL_law_173 (by omega) (by omega) (fun w7 ew7 => ?_)
  refine va_sld hx hb hX hbl hbA hJ.2 (hi_in (by omega) (by omega)) dL_law_174 ?_
  refine lv_topi (fun y8 fy8 => ?_)
  have ey8 : y8 = xs (k + 1) := by rw [fy8, show w7.toNatClampNeg = k + 1 by have := hi_cl (x := w7) (by omega); omega]
  have qy8 : y3 = y8 := by rw [ey3, ey8]
  subst qy8
  refine he_calli (va_runV (As := [.int y3]) (rest := []) ⟨hx, hb, hml, hown, hts⟩ (e_X7_tellX l dC dI dA κ B g5 mo km y3) (cwV 1 hts gL_law_X7_tell rfl rfl rfl (by decide +kernel) ⟨Nat.le_of_ble_eq_true rfl, Nat.le_of_ble_eq_true rfl⟩) (he_preV (q := (RX7, TX7, 24)) [.int y3] hK hN hW hJ km rfl rfl) rfl rfl hl.1 rfl (lv_room (Nat.le_of_ble_eq_true rfl)) dL_law_175 ⟨(by show 600000 + 0 ≤ 600000; omega), (by show 7302250 + 0 ≤ 7302250; omega)⟩) hJ (fun r9 g10 H locs hp hJ => ?_)
  obtain ⟨Pg10, fg10⟩ := hp
  have Qg10 : ∀ a b : Nat, ¬ ((a = 11 ∧ b = 1) ∨ a = 24) → g10 a b = g5 a b := fun a b h9 => Pg10 a b h9
  refine lv_pop hx hb dL_law_178 rfl ?_
  have hc9 : ∀ a b : Nat, ¬ (a = 11 ∨ (18 ≤ a ∧ a < 40)) → g10 a b = g5 a b := fun a b h9 => Qg10 a b (by omega)
  have c11 : g10 1 1 = g5 1 1 := hc9 1 1 (by omega)
  have c31 : g10 3 1 = g5 3 1 := hc9 3 1 (by omega)
  have c12 : ∀ i : Nat, g10 12 i = g5 12 i := fun i => hc9 12 i (by omega)
  have c5 : ∀ j : Nat, j < 4 → g10 (5 + j) 0 = g5 (5 + j) 0 := fun j hj => hc9 (5 + j) 0 (by omega)
  obtain ⟨tc1, hw1⟩ := hc_tab_same hwg (u := g5) (fun a b q => Qg5 a b (by unfold hc_f at q; omega))
  obtain ⟨tc2, hw2⟩ := (hc_tab_same (u := g10) hw1 (fun a b q => hc9 a b (by unfold hc_f at q; omega)))
  have hszh : hm_sz g5 := fun k hk => by rw [Qg5 30 k (by omega)]; exact hszg k hk
  have tm2 : hm_tab g10 = hm_tab g5 := hm_tab_same hszh (by rw [Qg5 11 13 (by omega)]; exact hkng.2) (Qg10 11 13 (by omega)) (fun a b h9 => Qg10 a b (by omega))
  have htt : g10 1 1 = g10 11 1 ∧ ∀ i : Nat, (i : Int) < g10 1 1 → g10 12 i = g10 38 i := by
    rcases fg5 with ⟨cA, cB⟩ | ⟨cA, cB⟩
    · rcases fg10 with ⟨dA9, dB⟩ | ⟨dA9, dB⟩
      · exact ⟨by omega, fun i hi => absurd hi (by omega)⟩
      · exact absurd (show (((y3.toInt = 1 ∨ y3.toInt = 2) ∧ 2 ≤ g5 11 1 ∧ g5 11 1 ≤ 59) ∨ (4 ≤ y3.toInt ∧ y3.toInt ≤ 8 ∧ g5 11 1 ≤ 60)) by rw [m11, ← htc]; exact cA) dA9
    · rcases fg10 with ⟨dA9, dB⟩ | ⟨dA9, dB⟩
      · exact absurd (show (((y3.toInt = 1 ∨ y3.toInt = 2) ∧ 2 ≤ g 1 1 ∧ g 1 1 ≤ 59) ∨ (4 ≤ y3.toInt ∧ y3.toInt ≤ 8 ∧ g 1 1 ≤ 60)) by rw [htc, ← m11]; exact dA9) cA
      · rw [← dB, ← cB]; exact ⟨htc, hty⟩
  have hE9 : hg_E g10 := hE_keep hEg (tc2.trans tc1) hw2 (tm2.trans hmT) (fun j hj => (c5 j hj).trans (Qg5 (5 + j) 0 (by omega))) (fun j => (Qg10 20 j (by omega)).trans (m20 j)) (c31.trans (Qg5 3 1 (by omega))) ((Qg10 27 12 (by omega)).trans m27) htt.1 htt.2
  refine lv_goto (tgt := 462) hx hb dL_law_179 (by decide) ?_
  exact nxt g10 _ _ ls hE9 hJ (lv_sub hl [0, 1, 2, 3] rfl)
set_option maxRecDepth 100000 in
set_option maxHeartbeats 8000000 in
theorem law_set {p : Program} {l : Launch} {e : Env} {s : State} {m : MethodId} {below : List Frame} {meth : Method} {c : Code} {dC : Nat → ClassId} {dI : Nat → Nat → Nat} {dA : Nat → ClassId} {κ : Nat → Nat} {B b L x mo k : Nat} {xs : Nat → Int32} {v : Int32} {g : Nat → Nat → Int} {H : Heap} {locs : List Loc} {ls : Array Slot} (hL : L ≤ 2048) (hx : p.tables.exec = Jvm.exec) (hb : c.code = cL_law) (hml : c.maxLocals = 4) (hown : s.vm.findClass RL = some m.cls) (hts : ∀ w ∈ wsL_law, w.before #[Value.ref b] s = true) (hX : va_X b L xs s s.heap) (hbl : b < s.heap.size) (hbA : ¬ hp_A B b) (hK : va_K (dC, dI) vwCl (hp_ty dA) s) (hN : hp_N s) (hW : hp_W κ B) (kx : κ x = 1) (km : κ mo = 11) (hv : v.toInt = (k : Int)) (hkL : k + 4 ≤ L) (hEg : hg_E g) (hJ : he_J dC dI dA κ B g s.heap H locs) (hl : lv_has ls 4 [(0, .ref b), (1, .ref x), (2, .ref mo), (3, .int v)])
    (nxt : ∀ (g' : Nat → Nat → Int) (H : Heap) (locs : List Loc) (ls : Array Slot), hg_E g' → he_J dC dI dA κ B g' s.heap H locs → lv_has ls 4 [(0, .ref b), (1, .ref x), (2, .ref mo), (3, .int v)] → W p l e room_1 s m #[Value.ref b] below meth c H locs 600000 7302250 (lw_Z below #[Value.ref b] s) (F0 m 462 ls [])) : W p l e room_1 s m #[Value.ref b] below meth c H locs 600000 7302250 (lw_Z below #[Value.ref b] s) (F0 m 182 ls []) := by
  obtain ⟨⟨hwg, hig, hjg, hlg⟩, htab, htc, hty, hup, hhd, h03⟩ := id hEg
  have hszg := he_msz hJ km
  have hkng := he_m13 hJ km
  refine lv_aload_n hx hb dL_law_182 rfl (lv_at hl 1 rfl) ?_
  refine lv_aload_n hx hb dL_law_183 rfl (lv_at hl 0 rfl) ?_
  refine lv_iload_n hx hb dL_law_184 rfl (lv_at hl 3 rfl) ?_
  refine hq_iconst hx hb dL_law_185 (by decide) (by decide) (fun z1 ez1 => ?_)
  refine hq_iadd hx hb dL_law_186 (by omega) (by omega) (fun w2 ew2 => ?_)
  refine va_sld hx hb hX hbl hbA hJ.2 (hi_in (by omega) (by omega)) dL_law_187 ?_
  refine lv_topi (fun y3 fy3 => ?_)
  have ey3 : y3 = xs (k + 1) := by rw [fy3, show w2.toNatClampNeg = k + 1 by have := hi_cl (x := w2) (by omega); omega]
  refine lv_aload_n hx hb dL_law_188 rfl (lv_at hl 0 rfl) ?_
  refine lv_iload_n hx hb dL_law_189 rfl (lv_at hl 3 rfl) ?_
  refine hq_iconst hx hb dL_law_190 (by decide) (by decide) (fun z4 ez4 => ?_)
  refine hq_iadd hx hb dL_law_191 (by omega) (by omega) (fun w5 ew5 => ?_)
  refine va_sld hx hb hX hbl hbA hJ.2 (hi_in (by omega) (by omega)) dL_law_192 ?_
  refine lv_topi (fun y6 fy6 => ?_)
  have ey6 : y6 = xs (k + 2) := by rw [fy6, show w5.toNatClampNeg = k + 2 by have := hi_cl (x := w5) (by omega); omega]
  refine he_calli (va_runV (As := [.int y3, .int y6]) (rest := []) ⟨hx, hb, hml, hown, hts⟩ (e_X6_set l dC dI dA κ B g x kx y3 y6) (cwV 2 hts gL_law_X6_set rfl rfl rfl (by decide +kernel) ⟨Nat.le_of_ble_eq_true rfl, Nat.le_of_ble_eq_true rfl⟩) (he_preV (q := (RX6, TX6, 12)) [.int y3, .int y6] hK hN hW hJ kx rfl rfl) rfl rfl hl.1 rfl (lv_room (Nat.le_of_ble_eq_true rfl)) dL_law_193 ⟨(by show 600000 + 0 ≤ 600000; omega), (by show 7302250 + 0 ≤ 7302250; omega)⟩) hJ (fun r7 g8 H locs hp hJ => ?_)
  subst hp
  refine lv_pop hx hb dL_law_196 rfl ?_
  refine lv_aload_n hx hb dL_law_197 rfl (lv_at hl 2 rfl) ?_
  refine lv_aload_n hx hb dL_law_198 rfl (lv_at hl 0 rfl) ?_
  refine lv_iload_n hx hb dL_law_199 rfl (lv_at hl 3 rfl) ?_
  refine hq_iconst hx hb dL_law_200 (by decide) (by decide) (fun z9 ez9 => ?_)
  refine hq_iadd hx hb dL_law_201 (by omega) (by omega) (fun w10 ew10 => ?_)
  refine va_sld hx hb hX hbl hbA hJ.2 (hi_in (by omega) (by omega)) dL_law_202 ?_
  refine lv_topi (fun y11 fy11 => ?_)
  have ey11 : y11 = xs (k + 1) := by rw [fy11, show w10.toNatClampNeg = k + 1 by have := hi_cl (x := w10) (by omega); omega]
  refine lv_aload_n hx hb dL_law_203 rfl (lv_at hl 0 rfl) ?_
  refine lv_iload_n hx hb dL_law_204 rfl (lv_at hl 3 rfl) ?_
  refine hq_iconst hx hb dL_law_205 (by decide) (by decide) (fun z12 ez12 => ?_)
  refine hq_iadd hx hb dL_law_206 (by omega) (by omega) (fun w13 ew13 => ?_)
  refine va_sld hx hb hX hbl hbA hJ.2 (hi_in (by omega) (by omega)) dL_law_207 ?_
  refine lv_topi (fun y14 fy14 => ?_)
  have ey14 : y14 = xs (k + 2) := by rw [fy14, show w13.toNatClampNeg = k + 2 by have := hi_cl (x := w13) (by omega); omega]
  have qy11 : y3 = y11 := by rw [ey3, ey11]
  subst qy11
  have qy14 : y6 = y14 := by rw [ey6, ey14]
  subst qy14
  refine he_calli (va_runV (As := [.int y3, .int y6]) (rest := []) ⟨hx, hb, hml, hown, hts⟩ (e_X7_set l dC dI dA κ B g mo km y3 y6) (cwV 2 hts gL_law_X7_set rfl rfl rfl (by decide +kernel) ⟨Nat.le_of_ble_eq_true rfl, Nat.le_of_ble_eq_true rfl⟩) (he_preV (q := (RX7, TX7, 24)) [.int y3, .int y6] hK hN hW hJ km rfl rfl) rfl rfl hl.1 rfl (lv_room (Nat.le_of_ble_eq_true rfl)) dL_law_208 ⟨(by show 600000 + 0 ≤ 600000; omega), (by show 7302250 + 0 ≤ 7302250; omega)⟩) hJ (fun r15 g16 H locs hp hJ => ?_)
  subst hp
  refine lv_pop hx hb dL_law_211 rfl ?_
  refine lv_goto (tgt := 462) hx hb dL_law_212 (by decide) ?_
  exact nxt g _ _ ls hEg hJ (lv_sub hl [0, 1, 2, 3] rfl)
set_option maxRecDepth 100000 in
set_option maxHeartbeats 8000000 in
theorem law_port {p : Program} {l : Launch} {e : Env} {s : State} {m : MethodId} {below : List Frame} {meth : Method} {c : Code} {dC : Nat → ClassId} {dI : Nat → Nat → Nat} {dA : Nat → ClassId} {κ : Nat → Nat} {B b L x mo k : Nat} {xs : Nat → Int32} {v : Int32} {g : Nat → Nat → Int} {H : Heap} {locs : List Loc} {ls : Array Slot} (hL : L ≤ 2048) (hx : p.tables.exec = Jvm.exec) (hb : c.code = cL_law) (hml : c.maxLocals = 4) (hown : s.vm.findClass RL = some m.cls) (hts : ∀ w ∈ wsL_law, w.before #[Value.ref b] s = true) (hX : va_X b L xs s s.heap) (hbl : b < s.heap.size) (hbA : ¬ hp_A B b) (hK : va_K (dC, dI) vwCl (hp_ty dA) s) (hN : hp_N s) (hW : hp_W κ B) (kx : κ x = 1) (km : κ mo = 11) (hv : v.toInt = (k : Int)) (hkL : k + 4 ≤ L) (hEg : hg_E g) (hJ : he_J dC dI dA κ B g s.heap H locs) (hl : lv_has ls 4 [(0, .ref b), (1, .ref x), (2, .ref mo), (3, .int v)])
    (nxt : ∀ (g' : Nat → Nat → Int) (H : Heap) (locs : List Loc) (ls : Array Slot), hg_E g' → he_J dC dI dA κ B g' s.heap H locs → lv_has ls 4 [(0, .ref b), (1, .ref x), (2, .ref mo), (3, .int v)] → W p l e room_1 s m #[Value.ref b] below meth c H locs 600000 7302250 (lw_Z below #[Value.ref b] s) (F0 m 462 ls [])) : W p l e room_1 s m #[Value.ref b] below meth c H locs 600000 7302250 (lw_Z below #[Value.ref b] s) (F0 m 215 ls []) := by
  obtain ⟨⟨hwg, hig, hjg, hlg⟩, htab, htc, hty, hup, hhd, h03⟩ := id hEg
  have hszg := he_msz hJ km
  have hkng := he_m13 hJ km
  refine lv_aload_n hx hb dL_law_215 rfl (lv_at hl 1 rfl) ?_
  refine lv_aload_n hx hb dL_law_216 rfl (lv_at hl 0 rfl) ?_
  refine lv_iload_n hx hb dL_law_217 rfl (lv_at hl 3 rfl) ?_
  refine hq_iconst hx hb dL_law_218 (by decide) (by decide) (fun z1 ez1 => ?_)
  refine hq_iadd hx hb dL_law_219 (by omega) (by omega) (fun w2 ew2 => ?_)
  refine va_sld hx hb hX hbl hbA hJ.2 (hi_in (by omega) (by omega)) dL_law_220 ?_
  refine lv_topi (fun y3 fy3 => ?_)
  have ey3 : y3 = xs (k + 1) := by rw [fy3, show w2.toNatClampNeg = k + 1 by have := hi_cl (x := w2) (by omega); omega]
  refine lv_aload_n hx hb dL_law_221 rfl (lv_at hl 0 rfl) ?_
  refine lv_iload_n hx hb dL_law_222 rfl (lv_at hl 3 rfl) ?_
  refine hq_iconst hx hb dL_law_223 (by decide) (by decide) (fun z4 ez4 => ?_)
  refine hq_iadd hx hb dL_law_224 (by omega) (by omega) (fun w5 ew5 => ?_)
  refine va_sld hx hb hX hbl hbA hJ.2 (hi_in (by omega) (by omega)) dL_law_225 ?_
  refine lv_topi (fun y6 fy6 => ?_)
  have ey6 : y6 = xs (k + 2) := by rw [fy6, show w5.toNatClampNeg = k + 2 by have := hi_cl (x := w5) (by omega); omega]
  refine he_calli (va_runV (As := [.int y3, .int y6]) (rest := []) ⟨hx, hb, hml, hown, hts⟩ (e_X6_port l dC dI dA κ B g x kx y3 y6 hwg) (cwV 2 hts gL_law_X6_port rfl rfl rfl (by decide +kernel) ⟨Nat.le_of_ble_eq_true rfl, Nat.le_of_ble_eq_true rfl⟩) (he_preV (q := (RX6, TX6, 12)) [.int y3, .int y6] hK hN hW hJ kx rfl rfl) rfl rfl hl.1 rfl (lv_room (Nat.le_of_ble_eq_true rfl)) dL_law_226 ⟨(by show 600000 + 0 ≤ 600000; omega), (by show 7302250 + 0 ≤ 7302250; omega)⟩) hJ (fun r7 g8 H locs hp hJ => ?_)
  obtain ⟨Pg8, fg8⟩ := hp
  have Qg8 : ∀ a b : Nat, ¬ ((5 ≤ a ∧ a < 9) ∨ a = 4 ∨ (a = 10 ∧ b = 1) ∨ a = 16) → g8 a b = g a b := fun a b h9 => Pg8 a b h9
  refine lv_pop hx hb dL_law_229 rfl ?_
  have hmT : hm_tab g8 = hm_tab g := hm_tab_same hszg hkng.2 (Qg8 11 13 (by omega)) (fun a b h9 => Qg8 a b (by omega))
  have m27 : g8 27 12 = g 27 12 := Qg8 27 12 (by omega)
  have m20 : ∀ j : Nat, g8 20 j = g 20 j := fun j => Qg8 20 j (by omega)
  have m11 : g8 11 1 = g 11 1 := Qg8 11 1 (by omega)
  have m38 : ∀ i : Nat, g8 38 i = g 38 i := fun i => Qg8 38 i (by omega)
  have hlg8 : 0 ≤ g8 27 12 ∧ g8 27 12 ≤ 65535 := by omega
  have hjg8 : hr_inv (hm_tab g8) (fun q => g 20 q) := by rw [hmT]; exact hjg
  refine lv_aload_n hx hb dL_law_230 rfl (lv_at hl 2 rfl) ?_
  refine lv_aload_n hx hb dL_law_231 rfl (lv_at hl 0 rfl) ?_
  refine lv_iload_n hx hb dL_law_232 rfl (lv_at hl 3 rfl) ?_
  refine hq_iconst hx hb dL_law_233 (by decide) (by decide) (fun z9 ez9 => ?_)
  refine hq_iadd hx hb dL_law_234 (by omega) (by omega) (fun w10 ew10 => ?_)
  refine va_sld hx hb hX hbl hbA hJ.2 (hi_in (by omega) (by omega)) dL_law_235 ?_
  refine lv_topi (fun y11 fy11 => ?_)
  have ey11 : y11 = xs (k + 1) := by rw [fy11, show w10.toNatClampNeg = k + 1 by have := hi_cl (x := w10) (by omega); omega]
  refine lv_aload_n hx hb dL_law_236 rfl (lv_at hl 0 rfl) ?_
  refine lv_iload_n hx hb dL_law_237 rfl (lv_at hl 3 rfl) ?_
  refine hq_iconst hx hb dL_law_238 (by decide) (by decide) (fun z12 ez12 => ?_)
  refine hq_iadd hx hb dL_law_239 (by omega) (by omega) (fun w13 ew13 => ?_)
  refine va_sld hx hb hX hbl hbA hJ.2 (hi_in (by omega) (by omega)) dL_law_240 ?_
  refine lv_topi (fun y14 fy14 => ?_)
  have ey14 : y14 = xs (k + 2) := by rw [fy14, show w13.toNatClampNeg = k + 2 by have := hi_cl (x := w13) (by omega); omega]
  have qy11 : y3 = y11 := by rw [ey3, ey11]
  subst qy11
  have qy14 : y6 = y14 := by rw [ey6, ey14]
  subst qy14
  refine he_calli (va_runV (As := [.int y3, .int y6]) (rest := []) ⟨hx, hb, hml, hown, hts⟩ (e_X7_port l dC dI dA κ B g8 mo km y3 y6) (cwV 2 hts gL_law_X7_port rfl rfl rfl (by decide +kernel) ⟨Nat.le_of_ble_eq_true rfl, Nat.le_of_ble_eq_true rfl⟩) (he_preV (q := (RX7, TX7, 24)) [.int y3, .int y6] hK hN hW hJ km rfl rfl) rfl rfl hl.1 rfl (lv_room (Nat.le_of_ble_eq_true rfl)) dL_law_241 ⟨(by show 600000 + 0 ≤ 600000; omega), (by show 7302250 + 0 ≤ 7302250; omega)⟩) hJ (fun r15 g16 H locs hp hJ => ?_)
  obtain ⟨Pg16, fg16⟩ := hp
  have Qg16 : ∀ a b : Nat, ¬ (a = 11 ∧ (b = 13 ∨ b = 22 ∨ b = 23) ∨ (20 ≤ a ∧ a ≤ 30)) → g16 a b = g8 a b := fun a b h9 => Pg16 a b h9
  refine lv_pop hx hb dL_law_244 rfl ?_
  have hc9 : ∀ a b : Nat, ¬ (a = 11 ∨ (18 ≤ a ∧ a < 40)) → g16 a b = g8 a b := fun a b h9 => Qg16 a b (by omega)
  have c11 : g16 1 1 = g8 1 1 := hc9 1 1 (by omega)
  have c31 : g16 3 1 = g8 3 1 := hc9 3 1 (by omega)
  have c12 : ∀ i : Nat, g16 12 i = g8 12 i := fun i => hc9 12 i (by omega)
  have c5 : ∀ j : Nat, j < 4 → g16 (5 + j) 0 = g8 (5 + j) 0 := fun j hj => hc9 (5 + j) 0 (by omega)
  have hT9 : g16 1 1 = g16 11 1 ∧ (∀ i : Nat, (i : Int) < g16 1 1 → g16 12 i = g16 38 i) := ⟨by rw [c11, Qg8 1 1 (by omega), Qg16 11 1 (by omega), m11]; exact htc, fun i hi => by
    rw [c11, Qg8 1 1 (by omega)] at hi
    rw [c12, Qg8 12 i (by omega), Qg16 38 i (by omega), m38]; exact hty i hi⟩
  have e31 : g16 3 1 = g 3 1 := c31.trans (Qg8 3 1 (by omega))
  have hu0 : 0 ≤ y3.toInt → y3.toInt < 4 → g (5 + y3.toInt.toNat) 0 = g8 20 y3.toInt.toNat := fun q1 q2 => by rw [m20]; exact hup _ (by omega)
  obtain ⟨fg16, e27⟩ := fg16
  have hE9 : hg_E g16 := by
    rcases fg8 with ⟨cA, cU, hw1, cT, cF⟩ | ⟨cA, cU, hw1, cT, cF⟩ | ⟨cA, cE⟩
    · have cA5 := cA.2.2.2.2
      rw [hu0 cA.1 cA.2.1] at cA5
      rcases fg16 with ⟨dA9, dU, dT, dF⟩ | ⟨dA9, dU, dT, dF⟩ | ⟨dA9, dE⟩
      · obtain ⟨tc2, hw2⟩ := (hc_tab_same (u := g16) hw1 (fun a b q => hc9 a b (by unfold hc_f at q; omega)))
        refine hE_new hw2 (by rw [tc2, cT, dT, hmT, htab]) ?_ (fun j hj => by rw [c5 j hj, cF j hj, dF j hj, m20, hup j hj]) (by rw [e31, e27, m27]; exact hhd) (by omega) (by omega) hT9.1 hT9.2 (by rw [tc2, cT]; exact h03)
        rw [tc2, cT]
        refine hig.up (fun r9 hr9 q9 => ?_)
        have hr8 := hig.1 r9 hr9
        show g16 (5 + r9.1.toNat) 0 = 1
        rw [c5 r9.1.toNat (by omega), cF r9.1.toNat (by omega)]
        split
        · exact cU
        · exact q9
      · omega
      · exact absurd ⟨cA.1, cA.2.1, cA.2.2.1, cA.2.2.2.1, cA5⟩ dA9
    · have cA5 := cA.2.2.2.2
      rw [hu0 cA.1 cA.2.1] at cA5
      rcases fg16 with ⟨dA9, dU, dT, dF⟩ | ⟨dA9, dU, dT, dF⟩ | ⟨dA9, dE⟩
      · omega
      · obtain ⟨tc2, hw2⟩ := (hc_tab_same (u := g16) hw1 (fun a b q => hc9 a b (by unfold hc_f at q; omega)))
        refine hE_new hw2 (by rw [tc2, cT, dT, hmT, htab]) ?_ (fun j hj => by rw [c5 j hj, cF j hj, dF j hj, m20, hup j hj]) (by rw [e31, e27, m27]; exact hhd) (by omega) (by omega) hT9.1 hT9.2 (by rw [tc2, cT]; exact h03_np h03)
        rw [tc2, cT]
        exact hig.port cA.1 (fun j hj hjp => by show g16 (5 + j) 0 = _; rw [c5 j hj, cF j hj, if_neg hjp])
      · exact absurd ⟨cA.1, cA.2.1, cA.2.2.1, cA.2.2.2.1, cA5⟩ dA9
    · rcases fg16 with ⟨dA9, dU, dT, dF⟩ | ⟨dA9, dU, dT, dF⟩ | ⟨dA9, dE⟩
      · have dA5 := dA9.2.2.2.2
        rw [← hu0 dA9.1 dA9.2.1] at dA5
        exact absurd ⟨dA9.1, dA9.2.1, dA9.2.2.1, dA9.2.2.2.1, dA5⟩ cA
      · have dA5 := dA9.2.2.2.2
        rw [← hu0 dA9.1 dA9.2.1] at dA5
        exact absurd ⟨dA9.1, dA9.2.1, dA9.2.2.1, dA9.2.2.2.1, dA5⟩ cA
      · rw [← dE, ← cE]; exact hEg
  refine lv_goto (tgt := 462) hx hb dL_law_245 (by decide) ?_
  exact nxt g16 _ _ ls hE9 hJ (lv_sub hl [0, 1, 2, 3] rfl)
set_option maxRecDepth 100000 in
set_option maxHeartbeats 8000000 in
theorem law_hear {p : Program} {l : Launch} {e : Env} {s : State} {m : MethodId} {below : List Frame} {meth : Method} {c : Code} {dC : Nat → ClassId} {dI : Nat → Nat → Nat} {dA : Nat → ClassId} {κ : Nat → Nat} {B b L x mo k : Nat} {xs : Nat → Int32} {v : Int32} {g : Nat → Nat → Int} {H : Heap} {locs : List Loc} {ls : Array Slot} (hL : L ≤ 2048) (hx : p.tables.exec = Jvm.exec) (hb : c.code = cL_law) (hml : c.maxLocals = 4) (hown : s.vm.findClass RL = some m.cls) (hts : ∀ w ∈ wsL_law, w.before #[Value.ref b] s = true) (hX : va_X b L xs s s.heap) (hbl : b < s.heap.size) (hbA : ¬ hp_A B b) (hK : va_K (dC, dI) vwCl (hp_ty dA) s) (hN : hp_N s) (hW : hp_W κ B) (kx : κ x = 1) (km : κ mo = 11) (hv : v.toInt = (k : Int)) (hkL : k + 4 ≤ L) (hEg : hg_E g) (hJ : he_J dC dI dA κ B g s.heap H locs) (hl : lv_has ls 4 [(0, .ref b), (1, .ref x), (2, .ref mo), (3, .int v)])
    (nxt : ∀ (g' : Nat → Nat → Int) (H : Heap) (locs : List Loc) (ls : Array Slot), hg_E g' → he_J dC dI dA κ B g' s.heap H locs → lv_has ls 4 [(0, .ref b), (1, .ref x), (2, .ref mo), (3, .int v)] → W p l e room_1 s m #[Value.ref b] below meth c H locs 600000 7302250 (lw_Z below #[Value.ref b] s) (F0 m 462 ls [])) : W p l e room_1 s m #[Value.ref b] below meth c H locs 600000 7302250 (lw_Z below #[Value.ref b] s) (F0 m 248 ls []) := by
  obtain ⟨⟨hwg, hig, hjg, hlg⟩, htab, htc, hty, hup, hhd, h03⟩ := id hEg
  have hszg := he_msz hJ km
  have hkng := he_m13 hJ km
  refine lv_aload_n hx hb dL_law_248 rfl (lv_at hl 1 rfl) ?_
  refine lv_aload_n hx hb dL_law_249 rfl (lv_at hl 0 rfl) ?_
  refine lv_iload_n hx hb dL_law_250 rfl (lv_at hl 3 rfl) ?_
  refine hq_iconst hx hb dL_law_251 (by decide) (by decide) (fun z1 ez1 => ?_)
  refine hq_iadd hx hb dL_law_252 (by omega) (by omega) (fun w2 ew2 => ?_)
  refine va_sld hx hb hX hbl hbA hJ.2 (hi_in (by omega) (by omega)) dL_law_253 ?_
  refine lv_topi (fun y3 fy3 => ?_)
  have ey3 : y3 = xs (k + 1) := by rw [fy3, show w2.toNatClampNeg = k + 1 by have := hi_cl (x := w2) (by omega); omega]
  refine he_calli (va_runV (As := [.int y3]) (rest := []) ⟨hx, hb, hml, hown, hts⟩ (e_X6_hearX l dC dI dA κ B g x kx y3 hwg) (cwV 1 hts gL_law_X6_hear rfl rfl rfl (by decide +kernel) ⟨Nat.le_of_ble_eq_true rfl, Nat.le_of_ble_eq_true rfl⟩) (he_preV (q := (RX6, TX6, 12)) [.int y3] hK hN hW hJ kx rfl rfl) rfl rfl hl.1 rfl (lv_room (Nat.le_of_ble_eq_true rfl)) dL_law_254 ⟨(by show 600000 + 0 ≤ 600000; omega), (by show 7302250 + 0 ≤ 7302250; omega)⟩) hJ (fun r4 g5 H locs hp hJ => ?_)
  obtain ⟨Pg5, fg5⟩ := hp
  have Qg5 : ∀ a b : Nat, ¬ ((a = 1 ∧ (b = 1 ∨ b = 11)) ∨ (a = 10 ∧ b = 1) ∨ a = 16 ∨ (300 ≤ a ∧ a < 312) ∨ (a = 3 ∧ b = 0) ∨ (a = 3 ∧ b = 1) ∨ (340 ≤ a ∧ a < 353) ∨ (360 ≤ a ∧ a < 373) ∨ (5 ≤ a ∧ a < 9 ∧ b ≠ 0)) → g5 a b = g a b := fun a b h9 => Pg5 a b h9
  refine lv_pop hx hb dL_law_257 rfl ?_
  have hmT : hm_tab g5 = hm_tab g := hm_tab_same hszg hkng.2 (Qg5 11 13 (by omega)) (fun a b h9 => Qg5 a b (by omega))
  have m27 : g5 27 12 = g 27 12 := Qg5 27 12 (by omega)
  have m20 : ∀ j : Nat, g5 20 j = g 20 j := fun j => Qg5 20 j (by omega)
  have m11 : g5 11 1 = g 11 1 := Qg5 11 1 (by omega)
  have m38 : ∀ i : Nat, g5 38 i = g 38 i := fun i => Qg5 38 i (by omega)
  have hlg5 : 0 ≤ g5 27 12 ∧ g5 27 12 ≤ 65535 := by omega
  have hjg5 : hr_inv (hm_tab g5) (fun q => g 20 q) := by rw [hmT]; exact hjg
  refine lv_aload_n hx hb dL_law_258 rfl (lv_at hl 2 rfl) ?_
  refine lv_aload_n hx hb dL_law_259 rfl (lv_at hl 0 rfl) ?_
  refine lv_iload_n hx hb dL_law_260 rfl (lv_at hl 3 rfl) ?_
  refine hq_iconst hx hb dL_law_261 (by decide) (by decide) (fun z6 ez6 => ?_)
  refine hq_iadd hx hb dL_law_262 (by omega) (by omega) (fun w7 ew7 => ?_)
  refine va_sld hx hb hX hbl hbA hJ.2 (hi_in (by omega) (by omega)) dL_law_263 ?_
  refine lv_topi (fun y8 fy8 => ?_)
  have ey8 : y8 = xs (k + 1) := by rw [fy8, show w7.toNatClampNeg = k + 1 by have := hi_cl (x := w7) (by omega); omega]
  have qy8 : y3 = y8 := by rw [ey3, ey8]
  subst qy8
  refine he_calli (va_runV (As := [.int y3]) (rest := []) ⟨hx, hb, hml, hown, hts⟩ (e_X7_hearX l dC dI dA κ B g5 mo km y3 hlg5) (cwV 1 hts gL_law_X7_hear rfl rfl rfl (by decide +kernel) ⟨Nat.le_of_ble_eq_true rfl, Nat.le_of_ble_eq_true rfl⟩) (he_preV (q := (RX7, TX7, 24)) [.int y3] hK hN hW hJ km rfl rfl) rfl rfl hl.1 rfl (lv_room (Nat.le_of_ble_eq_true rfl)) dL_law_264 ⟨(by show 600000 + 0 ≤ 600000; omega), (by show 7302250 + 0 ≤ 7302250; omega)⟩) hJ (fun r9 g10 H locs hp hJ => ?_)
  obtain ⟨Pg10, fg10⟩ := hp
  have Qg10 : ∀ a b : Nat, ¬ ((a = 11 ∧ (b = 1 ∨ b = 13 ∨ b = 20)) ∨ (22 ≤ a ∧ a ≤ 30)) → g10 a b = g5 a b := fun a b h9 => Pg10 a b h9
  refine lv_pop hx hb dL_law_267 rfl ?_
  have hc9 : ∀ a b : Nat, ¬ (a = 11 ∨ (18 ≤ a ∧ a < 40)) → g10 a b = g5 a b := fun a b h9 => Qg10 a b (by omega)
  have c11 : g10 1 1 = g5 1 1 := hc9 1 1 (by omega)
  have c31 : g10 3 1 = g5 3 1 := hc9 3 1 (by omega)
  have c12 : ∀ i : Nat, g10 12 i = g5 12 i := fun i => hc9 12 i (by omega)
  have c5 : ∀ j : Nat, j < 4 → g10 (5 + j) 0 = g5 (5 + j) 0 := fun j hj => hc9 (5 + j) 0 (by omega)
  have hPP : hq_P (g5 38) (g5 11 1) 351 0 0 hc_e (g5 27 12) = hq_P (g 12) (g 1 1) 351 0 0 hc_e (g 3 1) := by
    rw [m11, m27, ← htc, ← hhd]
    exact hq_P_cg (fun i hi => by rw [m38 i]; exact (hty i hi).symm)
  have hu0 : 0 ≤ y3.toInt → y3.toInt < 4 → g (5 + y3.toInt.toNat) 0 = g5 20 y3.toInt.toNat := fun q1 q2 => by rw [m20]; exact hup _ (by omega)
  obtain ⟨fg10, hb27⟩ := fg10
  rw [hPP] at fg10
  have hP03 : hc_03 (hq_P (g 12) (g 1 1) 351 0 0 hc_e (g 3 1)).2.1 := hq_P_03 ⟨rfl, rfl⟩
  have hE9 : hg_E g10 := by
    rcases fg5 with ⟨cA, cZ, hw1, cH, cT⟩ | ⟨cA, cE⟩
    · rcases fg10 with ⟨dA9, dZ, dH, dT⟩ | ⟨dA9, dE⟩
      · obtain ⟨tc2, hw2⟩ := (hc_tab_same (u := g10) hw1 (fun a b q => hc9 a b (by unfold hc_f at q; omega)))
        have fc : ∀ j : Nat, j < 4 → g10 (5 + j) 0 = g (5 + j) 0 := fun j hj => (c5 j hj).trans (Qg5 (5 + j) 0 (by omega))
        have key : hc_tab g5 = hm_tab g10 ∧ hr_inv (hc_tab g5) (fun q => g (5 + q) 0) ∧ ∀ r ∈ hc_tab g5, hc_03 r.2.2.2 := by
          rcases cT with ⟨cP, b1, b2, cL⟩ | ⟨cP, cL⟩
          · rcases dT with ⟨dP, dL⟩ | ⟨dP, dL⟩
            · rw [hmT, ← htab] at dL
              exact ⟨hr_LN.det hig cL dL, cL.inv hig ⟨cA.1, cA.2.1, cA.2.2⟩ ⟨b1, b2⟩, h03_ln h03 hP03 cL⟩
            · rw [cP] at dP; cases dP
          · rcases dT with ⟨dP, dL⟩ | ⟨dP, dL⟩
            · rw [cP] at dP; cases dP
            · rw [cL, dL, hmT]; exact ⟨htab, hig, h03⟩
        refine hE_new hw2 (by rw [tc2]; exact key.1) ?_ (fun j hj => by rw [fc j hj, Qg10 20 j (by omega), m20, hup j hj]) (by rw [c31, cH, dH]) hb27.1 hb27.2 (by rw [c11, cZ, dZ]) (fun i hi => absurd hi (by rw [c11, cZ]; omega)) (by rw [tc2]; exact key.2.2)
        rw [tc2]
        refine key.2.1.up (fun r9 hr9 q9 => ?_)
        have hr8 := key.2.1.1 r9 hr9
        show g10 (5 + r9.1.toNat) 0 = 1
        rw [fc r9.1.toNat (by omega)]
        exact q9
      · have cA5 := cA.2.2
        rw [hu0 cA.1 cA.2.1] at cA5
        exact absurd ⟨cA.1, cA.2.1, cA5⟩ dA9
    · rcases fg10 with ⟨dA9, dZ, dH, dT⟩ | ⟨dA9, dE⟩
      · have dA5 := dA9.2.2
        rw [← hu0 dA9.1 dA9.2.1] at dA5
        exact absurd ⟨dA9.1, dA9.2.1, dA5⟩ cA
      · rw [← dE, ← cE]; exact hEg
  refine lv_goto (tgt := 462) hx hb dL_law_268 (by decide) ?_
  exact nxt g10 _ _ ls hE9 hJ (lv_sub hl [0, 1, 2, 3] rfl)
set_option maxRecDepth 100000 in
set_option maxHeartbeats 8000000 in
theorem law_tick {p : Program} {l : Launch} {e : Env} {s : State} {m : MethodId} {below : List Frame} {meth : Method} {c : Code} {dC : Nat → ClassId} {dI : Nat → Nat → Nat} {dA : Nat → ClassId} {κ : Nat → Nat} {B b L x mo k : Nat} {xs : Nat → Int32} {v : Int32} {g : Nat → Nat → Int} {H : Heap} {locs : List Loc} {ls : Array Slot} (hL : L ≤ 2048) (hx : p.tables.exec = Jvm.exec) (hb : c.code = cL_law) (hml : c.maxLocals = 4) (hown : s.vm.findClass RL = some m.cls) (hts : ∀ w ∈ wsL_law, w.before #[Value.ref b] s = true) (hX : va_X b L xs s s.heap) (hbl : b < s.heap.size) (hbA : ¬ hp_A B b) (hK : va_K (dC, dI) vwCl (hp_ty dA) s) (hN : hp_N s) (hW : hp_W κ B) (kx : κ x = 1) (km : κ mo = 11) (hv : v.toInt = (k : Int)) (hkL : k + 4 ≤ L) (hEg : hg_E g) (hJ : he_J dC dI dA κ B g s.heap H locs) (hl : lv_has ls 4 [(0, .ref b), (1, .ref x), (2, .ref mo), (3, .int v)])
    (nxt : ∀ (g' : Nat → Nat → Int) (H : Heap) (locs : List Loc) (ls : Array Slot), hg_E g' → he_J dC dI dA κ B g' s.heap H locs → lv_has ls 4 [(0, .ref b), (1, .ref x), (2, .ref mo), (3, .int v)] → W p l e room_1 s m #[Value.ref b] below meth c H locs 600000 7302250 (lw_Z below #[Value.ref b] s) (F0 m 462 ls [])) : W p l e room_1 s m #[Value.ref b] below meth c H locs 600000 7302250 (lw_Z below #[Value.ref b] s) (F0 m 271 ls []) := by
  obtain ⟨⟨hwg, hig, hjg, hlg⟩, htab, htc, hty, hup, hhd, h03⟩ := id hEg
  have hszg := he_msz hJ km
  have hkng := he_m13 hJ km
  refine lv_aload_n hx hb dL_law_271 rfl (lv_at hl 1 rfl) ?_
  refine lv_aload_n hx hb dL_law_272 rfl (lv_at hl 0 rfl) ?_
  refine lv_iload_n hx hb dL_law_273 rfl (lv_at hl 3 rfl) ?_
  refine hq_iconst hx hb dL_law_274 (by decide) (by decide) (fun z1 ez1 => ?_)
  refine hq_iadd hx hb dL_law_275 (by omega) (by omega) (fun w2 ew2 => ?_)
  refine va_sld hx hb hX hbl hbA hJ.2 (hi_in (by omega) (by omega)) dL_law_276 ?_
  refine lv_topi (fun y3 fy3 => ?_)
  have ey3 : y3 = xs (k + 1) := by rw [fy3, show w2.toNatClampNeg = k + 1 by have := hi_cl (x := w2) (by omega); omega]
  refine he_calli (va_runV (As := [.int y3]) (rest := []) ⟨hx, hb, hml, hown, hts⟩ (e_X6_tick l dC dI dA κ B g x kx y3 hwg hig) (cwV 1 hts gL_law_X6_tick rfl rfl rfl (by decide +kernel) ⟨Nat.le_of_ble_eq_true rfl, Nat.le_of_ble_eq_true rfl⟩) (he_preV (q := (RX6, TX6, 12)) [.int y3] hK hN hW hJ kx rfl rfl) rfl rfl hl.1 rfl (lv_room (Nat.le_of_ble_eq_true rfl)) dL_law_277 ⟨(by show 600000 + 0 ≤ 600000; omega), (by show 7302250 + 0 ≤ 7302250; omega)⟩) hJ (fun r4 g5 H locs hp hJ => ?_)
  obtain ⟨Pg5, fg5⟩ := hp
  have Qg5 : ∀ a b : Nat, ¬ ((a = 1 ∧ b = 10) ∨ a = 4 ∨ (5 ≤ a ∧ a < 9 ∧ b ≠ 0) ∨ (a = 10 ∧ b = 1) ∨ a = 16 ∨ (300 ≤ a ∧ a < 312 ∧ b = 2)) → g5 a b = g a b := fun a b h9 => Pg5 a b h9
  refine lv_pop hx hb dL_law_280 rfl ?_
  have hmT : hm_tab g5 = hm_tab g := hm_tab_same hszg hkng.2 (Qg5 11 13 (by omega)) (fun a b h9 => Qg5 a b (by omega))
  have m27 : g5 27 12 = g 27 12 := Qg5 27 12 (by omega)
  have m20 : ∀ j : Nat, g5 20 j = g 20 j := fun j => Qg5 20 j (by omega)
  have m11 : g5 11 1 = g 11 1 := Qg5 11 1 (by omega)
  have m38 : ∀ i : Nat, g5 38 i = g 38 i := fun i => Qg5 38 i (by omega)
  have hlg5 : 0 ≤ g5 27 12 ∧ g5 27 12 ≤ 65535 := by omega
  have hjg5 : hr_inv (hm_tab g5) (fun q => g 20 q) := by rw [hmT]; exact hjg
  refine lv_aload_n hx hb dL_law_281 rfl (lv_at hl 2 rfl) ?_
  refine lv_aload_n hx hb dL_law_282 rfl (lv_at hl 0 rfl) ?_
  refine lv_iload_n hx hb dL_law_283 rfl (lv_at hl 3 rfl) ?_
  refine hq_iconst hx hb dL_law_284 (by decide) (by decide) (fun z6 ez6 => ?_)
  refine hq_iadd hx hb dL_law_285 (by omega) (by omega) (fun w7 ew7 => ?_)
  refine va_sld hx hb hX hbl hbA hJ.2 (hi_in (by omega) (by omega)) dL_law_286 ?_
  refine lv_topi (fun y8 fy8 => ?_)
  have ey8 : y8 = xs (k + 1) := by rw [fy8, show w7.toNatClampNeg = k + 1 by have := hi_cl (x := w7) (by omega); omega]
  have qy8 : y3 = y8 := by rw [ey3, ey8]
  subst qy8
  refine he_calli (va_runV (As := [.int y3]) (rest := []) ⟨hx, hb, hml, hown, hts⟩ (e_X7_tick l dC dI dA κ B g5 mo km y3 hjg5) (cwV 1 hts gL_law_X7_tick rfl rfl rfl (by decide +kernel) ⟨Nat.le_of_ble_eq_true rfl, Nat.le_of_ble_eq_true rfl⟩) (he_preV (q := (RX7, TX7, 24)) [.int y3] hK hN hW hJ km rfl rfl) rfl rfl hl.1 rfl (lv_room (Nat.le_of_ble_eq_true rfl)) dL_law_287 ⟨(by show 600000 + 0 ≤ 600000; omega), (by show 7302250 + 0 ≤ 7302250; omega)⟩) hJ (fun r9 g10 H locs hp hJ => ?_)
  obtain ⟨Pg10, fg10⟩ := hp
  have Qg10 : ∀ a b : Nat, ¬ ((a = 11 ∧ (b = 13 ∨ b = 19 ∨ b = 22 ∨ b = 23)) ∨ (21 ≤ a ∧ a ≤ 30)) → g10 a b = g5 a b := fun a b h9 => Pg10 a b h9
  refine lv_pop hx hb dL_law_290 rfl ?_
  have hc9 : ∀ a b : Nat, ¬ (a = 11 ∨ (18 ≤ a ∧ a < 40)) → g10 a b = g5 a b := fun a b h9 => Qg10 a b (by omega)
  have c11 : g10 1 1 = g5 1 1 := hc9 1 1 (by omega)
  have c31 : g10 3 1 = g5 3 1 := hc9 3 1 (by omega)
  have c12 : ∀ i : Nat, g10 12 i = g5 12 i := fun i => hc9 12 i (by omega)
  have c5 : ∀ j : Nat, j < 4 → g10 (5 + j) 0 = g5 (5 + j) 0 := fun j hj => hc9 (5 + j) 0 (by omega)
  have hT9 : g10 1 1 = g10 11 1 ∧ (∀ i : Nat, (i : Int) < g10 1 1 → g10 12 i = g10 38 i) := ⟨by rw [c11, Qg5 1 1 (by omega), Qg10 11 1 (by omega), m11]; exact htc, fun i hi => by
    rw [c11, Qg5 1 1 (by omega)] at hi
    rw [c12, Qg5 12 i (by omega), Qg10 38 i (by omega), m38]; exact hty i hi⟩
  have e31 : g10 3 1 = g 3 1 := c31.trans (Qg5 3 1 (by omega))
  obtain ⟨fg10, e27⟩ := fg10
  have hE9 : hg_E g10 := by
    rcases fg5 with ⟨cA, hw1, cT⟩ | ⟨cA, cE⟩
    · rcases fg10 with ⟨dA9, dT⟩ | ⟨dA9, dE⟩
      · obtain ⟨tc2, hw2⟩ := (hc_tab_same (u := g10) hw1 (fun a b q => hc9 a b (by unfold hc_f at q; omega)))
        have fc : ∀ j : Nat, j < 4 → g10 (5 + j) 0 = g (5 + j) 0 := fun j hj => (c5 j hj).trans (Qg5 (5 + j) 0 (by omega))
        refine hE_new hw2 (by rw [tc2, cT, dT, hmT, htab]) ?_ (fun j hj => by rw [fc j hj, Qg10 20 j (by omega), m20, hup j hj]) (by rw [e31, e27, m27]; exact hhd) (by omega) (by omega) hT9.1 hT9.2 (by rw [tc2, cT]; exact h03_tks h03 _)
        rw [tc2, cT]
        refine (hig.tks _).up (fun r9 hr9 q9 => ?_)
        have hr8 := (hig.tks _).1 r9 hr9
        show g10 (5 + r9.1.toNat) 0 = 1
        rw [fc r9.1.toNat (by omega)]
        exact q9
      · exact absurd cA dA9
    · rcases fg10 with ⟨dA9, dT⟩ | ⟨dA9, dE⟩
      · exact absurd dA9 cA
      · rw [← dE, ← cE]; exact hEg
  refine lv_goto (tgt := 462) hx hb dL_law_291 (by decide) ?_
  exact nxt g10 _ _ ls hE9 hJ (lv_sub hl [0, 1, 2, 3] rfl)
set_option maxRecDepth 100000 in
set_option maxHeartbeats 8000000 in
theorem law_about {p : Program} {l : Launch} {e : Env} {s : State} {m : MethodId} {below : List Frame} {meth : Method} {c : Code} {dC : Nat → ClassId} {dI : Nat → Nat → Nat} {dA : Nat → ClassId} {κ : Nat → Nat} {B b L x mo k : Nat} {xs : Nat → Int32} {v : Int32} {g : Nat → Nat → Int} {H : Heap} {locs : List Loc} {ls : Array Slot} (hL : L ≤ 2048) (hx : p.tables.exec = Jvm.exec) (hb : c.code = cL_law) (hml : c.maxLocals = 4) (hown : s.vm.findClass RL = some m.cls) (hts : ∀ w ∈ wsL_law, w.before #[Value.ref b] s = true) (hX : va_X b L xs s s.heap) (hbl : b < s.heap.size) (hbA : ¬ hp_A B b) (hK : va_K (dC, dI) vwCl (hp_ty dA) s) (hN : hp_N s) (hW : hp_W κ B) (kx : κ x = 1) (km : κ mo = 11) (hv : v.toInt = (k : Int)) (hkL : k + 4 ≤ L) (hEg : hg_E g) (hJ : he_J dC dI dA κ B g s.heap H locs) (hl : lv_has ls 4 [(0, .ref b), (1, .ref x), (2, .ref mo), (3, .int v)])
    (nxt : ∀ (g' : Nat → Nat → Int) (H : Heap) (locs : List Loc) (ls : Array Slot), hg_E g' → he_J dC dI dA κ B g' s.heap H locs → lv_has ls 4 [(0, .ref b), (1, .ref x), (2, .ref mo), (3, .int v)] → W p l e room_1 s m #[Value.ref b] below meth c H locs 600000 7302250 (lw_Z below #[Value.ref b] s) (F0 m 462 ls [])) : W p l e room_1 s m #[Value.ref b] below meth c H locs 600000 7302250 (lw_Z below #[Value.ref b] s) (F0 m 294 ls []) := by
  obtain ⟨⟨hwg, hig, hjg, hlg⟩, htab, htc, hty, hup, hhd, h03⟩ := id hEg
  have hszg := he_msz hJ km
  have hkng := he_m13 hJ km
  refine lv_aload_n hx hb dL_law_294 rfl (lv_at hl 1 rfl) ?_
  refine lv_aload_n hx hb dL_law_295 rfl (lv_at hl 0 rfl) ?_
  refine lv_iload_n hx hb dL_law_296 rfl (lv_at hl 3 rfl) ?_
  refine hq_iconst hx hb dL_law_297 (by decide) (by decide) (fun z1 ez1 => ?_)
  refine hq_iadd hx hb dL_law_298 (by omega) (by omega) (fun w2 ew2 => ?_)
  refine va_sld hx hb hX hbl hbA hJ.2 (hi_in (by omega) (by omega)) dL_law_299 ?_
  refine lv_topi (fun y3 fy3 => ?_)
  have ey3 : y3 = xs (k + 1) := by rw [fy3, show w2.toNatClampNeg = k + 1 by have := hi_cl (x := w2) (by omega); omega]
  refine lv_aload_n hx hb dL_law_300 rfl (lv_at hl 0 rfl) ?_
  refine lv_iload_n hx hb dL_law_301 rfl (lv_at hl 3 rfl) ?_
  refine hq_iconst hx hb dL_law_302 (by decide) (by decide) (fun z4 ez4 => ?_)
  refine hq_iadd hx hb dL_law_303 (by omega) (by omega) (fun w5 ew5 => ?_)
  refine va_sld hx hb hX hbl hbA hJ.2 (hi_in (by omega) (by omega)) dL_law_304 ?_
  refine lv_topi (fun y6 fy6 => ?_)
  have ey6 : y6 = xs (k + 2) := by rw [fy6, show w5.toNatClampNeg = k + 2 by have := hi_cl (x := w5) (by omega); omega]
  refine he_calli (va_runV (As := [.int y3, .int y6]) (rest := []) ⟨hx, hb, hml, hown, hts⟩ (e_X6_about l dC dI dA κ B g x kx y3 y6) (cwV 2 hts gL_law_X6_about rfl rfl rfl (by decide +kernel) ⟨Nat.le_of_ble_eq_true rfl, Nat.le_of_ble_eq_true rfl⟩) (he_preV (q := (RX6, TX6, 12)) [.int y3, .int y6] hK hN hW hJ kx rfl rfl) rfl rfl hl.1 rfl (lv_room (Nat.le_of_ble_eq_true rfl)) dL_law_305 ⟨(by show 600000 + 0 ≤ 600000; omega), (by show 7302250 + 0 ≤ 7302250; omega)⟩) hJ (fun r7 g8 H locs hp hJ => ?_)
  subst hp
  refine lv_pop hx hb dL_law_308 rfl ?_
  refine lv_aload_n hx hb dL_law_309 rfl (lv_at hl 2 rfl) ?_
  refine lv_aload_n hx hb dL_law_310 rfl (lv_at hl 0 rfl) ?_
  refine lv_iload_n hx hb dL_law_311 rfl (lv_at hl 3 rfl) ?_
  refine hq_iconst hx hb dL_law_312 (by decide) (by decide) (fun z9 ez9 => ?_)
  refine hq_iadd hx hb dL_law_313 (by omega) (by omega) (fun w10 ew10 => ?_)
  refine va_sld hx hb hX hbl hbA hJ.2 (hi_in (by omega) (by omega)) dL_law_314 ?_
  refine lv_topi (fun y11 fy11 => ?_)
  have ey11 : y11 = xs (k + 1) := by rw [fy11, show w10.toNatClampNeg = k + 1 by have := hi_cl (x := w10) (by omega); omega]
  refine lv_aload_n hx hb dL_law_315 rfl (lv_at hl 0 rfl) ?_
  refine lv_iload_n hx hb dL_law_316 rfl (lv_at hl 3 rfl) ?_
  refine hq_iconst hx hb dL_law_317 (by decide) (by decide) (fun z12 ez12 => ?_)
  refine hq_iadd hx hb dL_law_318 (by omega) (by omega) (fun w13 ew13 => ?_)
  refine va_sld hx hb hX hbl hbA hJ.2 (hi_in (by omega) (by omega)) dL_law_319 ?_
  refine lv_topi (fun y14 fy14 => ?_)
  have ey14 : y14 = xs (k + 2) := by rw [fy14, show w13.toNatClampNeg = k + 2 by have := hi_cl (x := w13) (by omega); omega]
  have qy11 : y3 = y11 := by rw [ey3, ey11]
  subst qy11
  have qy14 : y6 = y14 := by rw [ey6, ey14]
  subst qy14
  refine he_calli (va_runV (As := [.int y3, .int y6]) (rest := []) ⟨hx, hb, hml, hown, hts⟩ (e_X7_about l dC dI dA κ B g mo km y3 y6) (cwV 2 hts gL_law_X7_about rfl rfl rfl (by decide +kernel) ⟨Nat.le_of_ble_eq_true rfl, Nat.le_of_ble_eq_true rfl⟩) (he_preV (q := (RX7, TX7, 24)) [.int y3, .int y6] hK hN hW hJ km rfl rfl) rfl rfl hl.1 rfl (lv_room (Nat.le_of_ble_eq_true rfl)) dL_law_320 ⟨(by show 600000 + 0 ≤ 600000; omega), (by show 7302250 + 0 ≤ 7302250; omega)⟩) hJ (fun r15 g16 H locs hp hJ => ?_)
  subst hp
  refine lv_pop hx hb dL_law_323 rfl ?_
  refine lv_goto (tgt := 462) hx hb dL_law_324 (by decide) ?_
  exact nxt g _ _ ls hEg hJ (lv_sub hl [0, 1, 2, 3] rfl)
set_option maxRecDepth 100000 in
set_option maxHeartbeats 8000000 in
theorem law_count {p : Program} {l : Launch} {e : Env} {s : State} {m : MethodId} {below : List Frame} {meth : Method} {c : Code} {dC : Nat → ClassId} {dI : Nat → Nat → Nat} {dA : Nat → ClassId} {κ : Nat → Nat} {B b L x mo k : Nat} {xs : Nat → Int32} {v : Int32} {g : Nat → Nat → Int} {H : Heap} {locs : List Loc} {ls : Array Slot} (hL : L ≤ 2048) (hx : p.tables.exec = Jvm.exec) (hb : c.code = cL_law) (hml : c.maxLocals = 4) (hown : s.vm.findClass RL = some m.cls) (hts : ∀ w ∈ wsL_law, w.before #[Value.ref b] s = true) (hX : va_X b L xs s s.heap) (hbl : b < s.heap.size) (hbA : ¬ hp_A B b) (hK : va_K (dC, dI) vwCl (hp_ty dA) s) (hN : hp_N s) (hW : hp_W κ B) (kx : κ x = 1) (km : κ mo = 11) (hv : v.toInt = (k : Int)) (hkL : k + 4 ≤ L) (hEg : hg_E g) (hJ : he_J dC dI dA κ B g s.heap H locs) (hl : lv_has ls 4 [(0, .ref b), (1, .ref x), (2, .ref mo), (3, .int v)])
    (nxt : ∀ (g' : Nat → Nat → Int) (H : Heap) (locs : List Loc) (ls : Array Slot), hg_E g' → he_J dC dI dA κ B g' s.heap H locs → lv_has ls 4 [(0, .ref b), (1, .ref x), (2, .ref mo), (3, .int v)] → W p l e room_1 s m #[Value.ref b] below meth c H locs 600000 7302250 (lw_Z below #[Value.ref b] s) (F0 m 462 ls [])) : W p l e room_1 s m #[Value.ref b] below meth c H locs 600000 7302250 (lw_Z below #[Value.ref b] s) (F0 m 327 ls []) := by
  obtain ⟨⟨hwg, hig, hjg, hlg⟩, htab, htc, hty, hup, hhd, h03⟩ := id hEg
  have hszg := he_msz hJ km
  have hkng := he_m13 hJ km
  refine lv_aload_n hx hb dL_law_327 rfl (lv_at hl 1 rfl) ?_
  refine lv_aload_n hx hb dL_law_328 rfl (lv_at hl 0 rfl) ?_
  refine lv_iload_n hx hb dL_law_329 rfl (lv_at hl 3 rfl) ?_
  refine hq_iconst hx hb dL_law_330 (by decide) (by decide) (fun z1 ez1 => ?_)
  refine hq_iadd hx hb dL_law_331 (by omega) (by omega) (fun w2 ew2 => ?_)
  refine va_sld hx hb hX hbl hbA hJ.2 (hi_in (by omega) (by omega)) dL_law_332 ?_
  refine lv_topi (fun y3 fy3 => ?_)
  have ey3 : y3 = xs (k + 1) := by rw [fy3, show w2.toNatClampNeg = k + 1 by have := hi_cl (x := w2) (by omega); omega]
  refine he_calli (va_runV (As := [.int y3]) (rest := []) ⟨hx, hb, hml, hown, hts⟩ (e_X6_count l dC dI dA κ B g x kx y3) (cwV 1 hts gL_law_X6_count rfl rfl rfl (by decide +kernel) ⟨Nat.le_of_ble_eq_true rfl, Nat.le_of_ble_eq_true rfl⟩) (he_preV (q := (RX6, TX6, 12)) [.int y3] hK hN hW hJ kx rfl rfl) rfl rfl hl.1 rfl (lv_room (Nat.le_of_ble_eq_true rfl)) dL_law_333 ⟨(by show 600000 + 0 ≤ 600000; omega), (by show 7302250 + 0 ≤ 7302250; omega)⟩) hJ (fun r4 g5 H locs hp hJ => ?_)
  subst hp
  refine lv_pop hx hb dL_law_336 rfl ?_
  refine lv_aload_n hx hb dL_law_337 rfl (lv_at hl 2 rfl) ?_
  refine lv_aload_n hx hb dL_law_338 rfl (lv_at hl 0 rfl) ?_
  refine lv_iload_n hx hb dL_law_339 rfl (lv_at hl 3 rfl) ?_
  refine hq_iconst hx hb dL_law_340 (by decide) (by decide) (fun z6 ez6 => ?_)
  refine hq_iadd hx hb dL_law_341 (by omega) (by omega) (fun w7 ew7 => ?_)
  refine va_sld hx hb hX hbl hbA hJ.2 (hi_in (by omega) (by omega)) dL_law_342 ?_
  refine lv_topi (fun y8 fy8 => ?_)
  have ey8 : y8 = xs (k + 1) := by rw [fy8, show w7.toNatClampNeg = k + 1 by have := hi_cl (x := w7) (by omega); omega]
  have qy8 : y3 = y8 := by rw [ey3, ey8]
  subst qy8
  refine he_calli (va_runV (As := [.int y3]) (rest := []) ⟨hx, hb, hml, hown, hts⟩ (e_X7_count l dC dI dA κ B g mo km y3) (cwV 1 hts gL_law_X7_count rfl rfl rfl (by decide +kernel) ⟨Nat.le_of_ble_eq_true rfl, Nat.le_of_ble_eq_true rfl⟩) (he_preV (q := (RX7, TX7, 24)) [.int y3] hK hN hW hJ km rfl rfl) rfl rfl hl.1 rfl (lv_room (Nat.le_of_ble_eq_true rfl)) dL_law_343 ⟨(by show 600000 + 0 ≤ 600000; omega), (by show 7302250 + 0 ≤ 7302250; omega)⟩) hJ (fun r9 g10 H locs hp hJ => ?_)
  subst hp
  refine lv_pop hx hb dL_law_346 rfl ?_
  refine lv_goto (tgt := 462) hx hb dL_law_347 (by decide) ?_
  exact nxt g _ _ ls hEg hJ (lv_sub hl [0, 1, 2, 3] rfl)
set_option maxRecDepth 100000 in
set_option maxHeartbeats 8000000 in
theorem law_sent {p : Program} {l : Launch} {e : Env} {s : State} {m : MethodId} {below : List Frame} {meth : Method} {c : Code} {dC : Nat → ClassId} {dI : Nat → Nat → Nat} {dA : Nat → ClassId} {κ : Nat → Nat} {B b L x mo k : Nat} {xs : Nat → Int32} {v : Int32} {g : Nat → Nat → Int} {H : Heap} {locs : List Loc} {ls : Array Slot} (hL : L ≤ 2048) (hx : p.tables.exec = Jvm.exec) (hb : c.code = cL_law) (hml : c.maxLocals = 4) (hown : s.vm.findClass RL = some m.cls) (hts : ∀ w ∈ wsL_law, w.before #[Value.ref b] s = true) (hX : va_X b L xs s s.heap) (hbl : b < s.heap.size) (hbA : ¬ hp_A B b) (hK : va_K (dC, dI) vwCl (hp_ty dA) s) (hN : hp_N s) (hW : hp_W κ B) (kx : κ x = 1) (km : κ mo = 11) (hv : v.toInt = (k : Int)) (hkL : k + 4 ≤ L) (hEg : hg_E g) (hJ : he_J dC dI dA κ B g s.heap H locs) (hl : lv_has ls 4 [(0, .ref b), (1, .ref x), (2, .ref mo), (3, .int v)])
    (nxt : ∀ (g' : Nat → Nat → Int) (H : Heap) (locs : List Loc) (ls : Array Slot), hg_E g' → he_J dC dI dA κ B g' s.heap H locs → lv_has ls 4 [(0, .ref b), (1, .ref x), (2, .ref mo), (3, .int v)] → W p l e room_1 s m #[Value.ref b] below meth c H locs 600000 7302250 (lw_Z below #[Value.ref b] s) (F0 m 462 ls [])) : W p l e room_1 s m #[Value.ref b] below meth c H locs 600000 7302250 (lw_Z below #[Value.ref b] s) (F0 m 350 ls []) := by
  obtain ⟨⟨hwg, hig, hjg, hlg⟩, htab, htc, hty, hup, hhd, h03⟩ := id hEg
  have hszg := he_msz hJ km
  have hkng := he_m13 hJ km
  refine lv_aload_n hx hb dL_law_350 rfl (lv_at hl 1 rfl) ?_
  refine lv_aload_n hx hb dL_law_351 rfl (lv_at hl 0 rfl) ?_
  refine lv_iload_n hx hb dL_law_352 rfl (lv_at hl 3 rfl) ?_
  refine hq_iconst hx hb dL_law_353 (by decide) (by decide) (fun z1 ez1 => ?_)
  refine hq_iadd hx hb dL_law_354 (by omega) (by omega) (fun w2 ew2 => ?_)
  refine va_sld hx hb hX hbl hbA hJ.2 (hi_in (by omega) (by omega)) dL_law_355 ?_
  refine lv_topi (fun y3 fy3 => ?_)
  have ey3 : y3 = xs (k + 1) := by rw [fy3, show w2.toNatClampNeg = k + 1 by have := hi_cl (x := w2) (by omega); omega]
  refine he_calli (va_runV (As := [.int y3]) (rest := []) ⟨hx, hb, hml, hown, hts⟩ (e_X6_sent l dC dI dA κ B g x kx y3) (cwV 1 hts gL_law_X6_sent rfl rfl rfl (by decide +kernel) ⟨Nat.le_of_ble_eq_true rfl, Nat.le_of_ble_eq_true rfl⟩) (he_preV (q := (RX6, TX6, 12)) [.int y3] hK hN hW hJ kx rfl rfl) rfl rfl hl.1 rfl (lv_room (Nat.le_of_ble_eq_true rfl)) dL_law_356 ⟨(by show 600000 + 0 ≤ 600000; omega), (by show 7302250 + 0 ≤ 7302250; omega)⟩) hJ (fun r4 g5 H locs hp hJ => ?_)
  subst hp
  refine lv_pop hx hb dL_law_359 rfl ?_
  refine lv_aload_n hx hb dL_law_360 rfl (lv_at hl 2 rfl) ?_
  refine lv_aload_n hx hb dL_law_361 rfl (lv_at hl 0 rfl) ?_
  refine lv_iload_n hx hb dL_law_362 rfl (lv_at hl 3 rfl) ?_
  refine hq_iconst hx hb dL_law_363 (by decide) (by decide) (fun z6 ez6 => ?_)
  refine hq_iadd hx hb dL_law_364 (by omega) (by omega) (fun w7 ew7 => ?_)
  refine va_sld hx hb hX hbl hbA hJ.2 (hi_in (by omega) (by omega)) dL_law_365 ?_
  refine lv_topi (fun y8 fy8 => ?_)
  have ey8 : y8 = xs (k + 1) := by rw [fy8, show w7.toNatClampNeg = k + 1 by have := hi_cl (x := w7) (by omega); omega]
  have qy8 : y3 = y8 := by rw [ey3, ey8]
  subst qy8
  refine he_calli (va_runV (As := [.int y3]) (rest := []) ⟨hx, hb, hml, hown, hts⟩ (e_X7_sent l dC dI dA κ B g mo km y3) (cwV 1 hts gL_law_X7_sent rfl rfl rfl (by decide +kernel) ⟨Nat.le_of_ble_eq_true rfl, Nat.le_of_ble_eq_true rfl⟩) (he_preV (q := (RX7, TX7, 24)) [.int y3] hK hN hW hJ km rfl rfl) rfl rfl hl.1 rfl (lv_room (Nat.le_of_ble_eq_true rfl)) dL_law_366 ⟨(by show 600000 + 0 ≤ 600000; omega), (by show 7302250 + 0 ≤ 7302250; omega)⟩) hJ (fun r9 g10 H locs hp hJ => ?_)
  subst hp
  refine lv_pop hx hb dL_law_369 rfl ?_
  refine lv_goto (tgt := 462) hx hb dL_law_370 (by decide) ?_
  exact nxt g _ _ ls hEg hJ (lv_sub hl [0, 1, 2, 3] rfl)
set_option maxRecDepth 100000 in
set_option maxHeartbeats 8000000 in
theorem law_neighbor {p : Program} {l : Launch} {e : Env} {s : State} {m : MethodId} {below : List Frame} {meth : Method} {c : Code} {dC : Nat → ClassId} {dI : Nat → Nat → Nat} {dA : Nat → ClassId} {κ : Nat → Nat} {B b L x mo k : Nat} {xs : Nat → Int32} {v : Int32} {g : Nat → Nat → Int} {H : Heap} {locs : List Loc} {ls : Array Slot} (hL : L ≤ 2048) (hx : p.tables.exec = Jvm.exec) (hb : c.code = cL_law) (hml : c.maxLocals = 4) (hown : s.vm.findClass RL = some m.cls) (hts : ∀ w ∈ wsL_law, w.before #[Value.ref b] s = true) (hX : va_X b L xs s s.heap) (hbl : b < s.heap.size) (hbA : ¬ hp_A B b) (hK : va_K (dC, dI) vwCl (hp_ty dA) s) (hN : hp_N s) (hW : hp_W κ B) (kx : κ x = 1) (km : κ mo = 11) (hv : v.toInt = (k : Int)) (hkL : k + 4 ≤ L) (hEg : hg_E g) (hJ : he_J dC dI dA κ B g s.heap H locs) (hl : lv_has ls 4 [(0, .ref b), (1, .ref x), (2, .ref mo), (3, .int v)])
    (nxt : ∀ (g' : Nat → Nat → Int) (H : Heap) (locs : List Loc) (ls : Array Slot), hg_E g' → he_J dC dI dA κ B g' s.heap H locs → lv_has ls 4 [(0, .ref b), (1, .ref x), (2, .ref mo), (3, .int v)] → W p l e room_1 s m #[Value.ref b] below meth c H locs 600000 7302250 (lw_Z below #[Value.ref b] s) (F0 m 462 ls [])) : W p l e room_1 s m #[Value.ref b] below meth c H locs 600000 7302250 (lw_Z below #[Value.ref b] s) (F0 m 373 ls []) := by
  obtain ⟨⟨hwg, hig, hjg, hlg⟩, htab, htc, hty, hup, hhd, h03⟩ := id hEg
  have hszg := he_msz hJ km
  have hkng := he_m13 hJ km
  refine lv_aload_n hx hb dL_law_373 rfl (lv_at hl 1 rfl) ?_
  refine lv_aload_n hx hb dL_law_374 rfl (lv_at hl 0 rfl) ?_
  refine lv_iload_n hx hb dL_law_375 rfl (lv_at hl 3 rfl) ?_
  refine hq_iconst hx hb dL_law_376 (by decide) (by decide) (fun z1 ez1 => ?_)
  refine hq_iadd hx hb dL_law_377 (by omega) (by omega) (fun w2 ew2 => ?_)
  refine va_sld hx hb hX hbl hbA hJ.2 (hi_in (by omega) (by omega)) dL_law_378 ?_
  refine lv_topi (fun y3 fy3 => ?_)
  have ey3 : y3 = xs (k + 1) := by rw [fy3, show w2.toNatClampNeg = k + 1 by have := hi_cl (x := w2) (by omega); omega]
  refine lv_aload_n hx hb dL_law_379 rfl (lv_at hl 0 rfl) ?_
  refine lv_iload_n hx hb dL_law_380 rfl (lv_at hl 3 rfl) ?_
  refine hq_iconst hx hb dL_law_381 (by decide) (by decide) (fun z4 ez4 => ?_)
  refine hq_iadd hx hb dL_law_382 (by omega) (by omega) (fun w5 ew5 => ?_)
  refine va_sld hx hb hX hbl hbA hJ.2 (hi_in (by omega) (by omega)) dL_law_383 ?_
  refine lv_topi (fun y6 fy6 => ?_)
  have ey6 : y6 = xs (k + 2) := by rw [fy6, show w5.toNatClampNeg = k + 2 by have := hi_cl (x := w5) (by omega); omega]
  refine he_calli (va_runV (As := [.int y3, .int y6]) (rest := []) ⟨hx, hb, hml, hown, hts⟩ (e_X6_neighborX l dC dI dA κ B g x kx y3 y6 (hE_03 h03)) (cwV 2 hts gL_law_X6_neighbor rfl rfl rfl (by decide +kernel) ⟨Nat.le_of_ble_eq_true rfl, Nat.le_of_ble_eq_true rfl⟩) (he_preV (q := (RX6, TX6, 12)) [.int y3, .int y6] hK hN hW hJ kx rfl rfl) rfl rfl hl.1 rfl (lv_room (Nat.le_of_ble_eq_true rfl)) dL_law_384 ⟨(by show 600000 + 0 ≤ 600000; omega), (by show 7302250 + 0 ≤ 7302250; omega)⟩) hJ (fun r7 g8 H locs hp hJ => ?_)
  obtain ⟨hq9, fg8⟩ := hp
  subst hq9
  refine lv_pop hx hb dL_law_387 rfl ?_
  refine lv_aload_n hx hb dL_law_388 rfl (lv_at hl 2 rfl) ?_
  refine lv_aload_n hx hb dL_law_389 rfl (lv_at hl 0 rfl) ?_
  refine lv_iload_n hx hb dL_law_390 rfl (lv_at hl 3 rfl) ?_
  refine hq_iconst hx hb dL_law_391 (by decide) (by decide) (fun z9 ez9 => ?_)
  refine hq_iadd hx hb dL_law_392 (by omega) (by omega) (fun w10 ew10 => ?_)
  refine va_sld hx hb hX hbl hbA hJ.2 (hi_in (by omega) (by omega)) dL_law_393 ?_
  refine lv_topi (fun y11 fy11 => ?_)
  have ey11 : y11 = xs (k + 1) := by rw [fy11, show w10.toNatClampNeg = k + 1 by have := hi_cl (x := w10) (by omega); omega]
  refine lv_aload_n hx hb dL_law_394 rfl (lv_at hl 0 rfl) ?_
  refine lv_iload_n hx hb dL_law_395 rfl (lv_at hl 3 rfl) ?_
  refine hq_iconst hx hb dL_law_396 (by decide) (by decide) (fun z12 ez12 => ?_)
  refine hq_iadd hx hb dL_law_397 (by omega) (by omega) (fun w13 ew13 => ?_)
  refine va_sld hx hb hX hbl hbA hJ.2 (hi_in (by omega) (by omega)) dL_law_398 ?_
  refine lv_topi (fun y14 fy14 => ?_)
  have ey14 : y14 = xs (k + 2) := by rw [fy14, show w13.toNatClampNeg = k + 2 by have := hi_cl (x := w13) (by omega); omega]
  have qy11 : y3 = y11 := by rw [ey3, ey11]
  subst qy11
  have qy14 : y6 = y14 := by rw [ey6, ey14]
  subst qy14
  refine he_calli (va_runV (As := [.int y3, .int y6]) (rest := []) ⟨hx, hb, hml, hown, hts⟩ (e_X7_neighborX l dC dI dA κ B g mo km y3 y6) (cwV 2 hts gL_law_X7_neighbor rfl rfl rfl (by decide +kernel) ⟨Nat.le_of_ble_eq_true rfl, Nat.le_of_ble_eq_true rfl⟩) (he_preV (q := (RX7, TX7, 24)) [.int y3, .int y6] hK hN hW hJ km rfl rfl) rfl rfl hl.1 rfl (lv_room (Nat.le_of_ble_eq_true rfl)) dL_law_399 ⟨(by show 600000 + 0 ≤ 600000; omega), (by show 7302250 + 0 ≤ 7302250; omega)⟩) hJ (fun r15 g16 H locs hp hJ => ?_)
  obtain ⟨hq9, fg16⟩ := hp
  subst hq9
  refine lv_pop hx hb dL_law_402 rfl ?_
  refine lv_goto (tgt := 462) hx hb dL_law_403 (by decide) ?_
  exact nxt g _ _ ls hEg hJ (lv_sub hl [0, 1, 2, 3] rfl)
set_option maxRecDepth 100000 in
set_option maxHeartbeats 8000000 in
theorem law_content {p : Program} {l : Launch} {e : Env} {s : State} {m : MethodId} {below : List Frame} {meth : Method} {c : Code} {dC : Nat → ClassId} {dI : Nat → Nat → Nat} {dA : Nat → ClassId} {κ : Nat → Nat} {B b L x mo k : Nat} {xs : Nat → Int32} {v : Int32} {g : Nat → Nat → Int} {H : Heap} {locs : List Loc} {ls : Array Slot} (hL : L ≤ 2048) (hx : p.tables.exec = Jvm.exec) (hb : c.code = cL_law) (hml : c.maxLocals = 4) (hown : s.vm.findClass RL = some m.cls) (hts : ∀ w ∈ wsL_law, w.before #[Value.ref b] s = true) (hX : va_X b L xs s s.heap) (hbl : b < s.heap.size) (hbA : ¬ hp_A B b) (hK : va_K (dC, dI) vwCl (hp_ty dA) s) (hN : hp_N s) (hW : hp_W κ B) (kx : κ x = 1) (km : κ mo = 11) (hv : v.toInt = (k : Int)) (hkL : k + 4 ≤ L) (hEg : hg_E g) (hJ : he_J dC dI dA κ B g s.heap H locs) (hl : lv_has ls 4 [(0, .ref b), (1, .ref x), (2, .ref mo), (3, .int v)])
    (nxt : ∀ (g' : Nat → Nat → Int) (H : Heap) (locs : List Loc) (ls : Array Slot), hg_E g' → he_J dC dI dA κ B g' s.heap H locs → lv_has ls 4 [(0, .ref b), (1, .ref x), (2, .ref mo), (3, .int v)] → W p l e room_1 s m #[Value.ref b] below meth c H locs 600000 7302250 (lw_Z below #[Value.ref b] s) (F0 m 462 ls [])) : W p l e room_1 s m #[Value.ref b] below meth c H locs 600000 7302250 (lw_Z below #[Value.ref b] s) (F0 m 406 ls []) := by
  obtain ⟨⟨hwg, hig, hjg, hlg⟩, htab, htc, hty, hup, hhd, h03⟩ := id hEg
  have hszg := he_msz hJ km
  have hkng := he_m13 hJ km
  refine lv_aload_n hx hb dL_law_406 rfl (lv_at hl 1 rfl) ?_
  refine lv_aload_n hx hb dL_law_407 rfl (lv_at hl 0 rfl) ?_
  refine lv_iload_n hx hb dL_law_408 rfl (lv_at hl 3 rfl) ?_
  refine hq_iconst hx hb dL_law_409 (by decide) (by decide) (fun z1 ez1 => ?_)
  refine hq_iadd hx hb dL_law_410 (by omega) (by omega) (fun w2 ew2 => ?_)
  refine va_sld hx hb hX hbl hbA hJ.2 (hi_in (by omega) (by omega)) dL_law_411 ?_
  refine lv_topi (fun y3 fy3 => ?_)
  have ey3 : y3 = xs (k + 1) := by rw [fy3, show w2.toNatClampNeg = k + 1 by have := hi_cl (x := w2) (by omega); omega]
  refine lv_aload_n hx hb dL_law_412 rfl (lv_at hl 0 rfl) ?_
  refine lv_iload_n hx hb dL_law_413 rfl (lv_at hl 3 rfl) ?_
  refine hq_iconst hx hb dL_law_414 (by decide) (by decide) (fun z4 ez4 => ?_)
  refine hq_iadd hx hb dL_law_415 (by omega) (by omega) (fun w5 ew5 => ?_)
  refine va_sld hx hb hX hbl hbA hJ.2 (hi_in (by omega) (by omega)) dL_law_416 ?_
  refine lv_topi (fun y6 fy6 => ?_)
  have ey6 : y6 = xs (k + 2) := by rw [fy6, show w5.toNatClampNeg = k + 2 by have := hi_cl (x := w5) (by omega); omega]
  refine lv_aload_n hx hb dL_law_417 rfl (lv_at hl 0 rfl) ?_
  refine lv_iload_n hx hb dL_law_418 rfl (lv_at hl 3 rfl) ?_
  refine hq_iconst hx hb dL_law_419 (by decide) (by decide) (fun z7 ez7 => ?_)
  refine hq_iadd hx hb dL_law_420 (by omega) (by omega) (fun w8 ew8 => ?_)
  refine va_sld hx hb hX hbl hbA hJ.2 (hi_in (by omega) (by omega)) dL_law_421 ?_
  refine lv_topi (fun y9 fy9 => ?_)
  have ey9 : y9 = xs (k + 3) := by rw [fy9, show w8.toNatClampNeg = k + 3 by have := hi_cl (x := w8) (by omega); omega]
  refine he_calli (va_runV (As := [.int y3, .int y6, .int y9]) (rest := []) ⟨hx, hb, hml, hown, hts⟩ (e_X6_contentX l dC dI dA κ B g x kx y3 y6 y9 (hE_03 h03)) (cwV 3 hts gL_law_X6_content rfl rfl rfl (by decide +kernel) ⟨Nat.le_of_ble_eq_true rfl, Nat.le_of_ble_eq_true rfl⟩) (he_preV (q := (RX6, TX6, 12)) [.int y3, .int y6, .int y9] hK hN hW hJ kx rfl rfl) rfl rfl hl.1 rfl (lv_room (Nat.le_of_ble_eq_true rfl)) dL_law_422 ⟨(by show 600000 + 0 ≤ 600000; omega), (by show 7302250 + 0 ≤ 7302250; omega)⟩) hJ (fun r10 g11 H locs hp hJ => ?_)
  obtain ⟨hq9, fg11⟩ := hp
  subst hq9
  refine lv_aload_n hx hb dL_law_425 rfl (lv_at hl 2 rfl) ?_
  refine lv_aload_n hx hb dL_law_426 rfl (lv_at hl 0 rfl) ?_
  refine lv_iload_n hx hb dL_law_427 rfl (lv_at hl 3 rfl) ?_
  refine hq_iconst hx hb dL_law_428 (by decide) (by decide) (fun z12 ez12 => ?_)
  refine hq_iadd hx hb dL_law_429 (by omega) (by omega) (fun w13 ew13 => ?_)
  refine va_sld hx hb hX hbl hbA hJ.2 (hi_in (by omega) (by omega)) dL_law_430 ?_
  refine lv_topi (fun y14 fy14 => ?_)
  have ey14 : y14 = xs (k + 1) := by rw [fy14, show w13.toNatClampNeg = k + 1 by have := hi_cl (x := w13) (by omega); omega]
  refine lv_aload_n hx hb dL_law_431 rfl (lv_at hl 0 rfl) ?_
  refine lv_iload_n hx hb dL_law_432 rfl (lv_at hl 3 rfl) ?_
  refine hq_iconst hx hb dL_law_433 (by decide) (by decide) (fun z15 ez15 => ?_)
  refine hq_iadd hx hb dL_law_434 (by omega) (by omega) (fun w16 ew16 => ?_)
  refine va_sld hx hb hX hbl hbA hJ.2 (hi_in (by omega) (by omega)) dL_law_435 ?_
  refine lv_topi (fun y17 fy17 => ?_)
  have ey17 : y17 = xs (k + 2) := by rw [fy17, show w16.toNatClampNeg = k + 2 by have := hi_cl (x := w16) (by omega); omega]
  refine lv_aload_n hx hb dL_law_436 rfl (lv_at hl 0 rfl) ?_
  refine lv_iload_n hx hb dL_law_437 rfl (lv_at hl 3 rfl) ?_
  refine hq_iconst hx hb dL_law_438 (by decide) (by decide) (fun z18 ez18 => ?_)
  refine hq_iadd hx hb dL_law_439 (by omega) (by omega) (fun w19 ew19 => ?_)
  refine va_sld hx hb hX hbl hbA hJ.2 (hi_in (by omega) (by omega)) dL_law_440 ?_
  refine lv_topi (fun y20 fy20 => ?_)
  have ey20 : y20 = xs (k + 3) := by rw [fy20, show w19.toNatClampNeg = k + 3 by have := hi_cl (x := w19) (by omega); omega]
  have qy14 : y3 = y14 := by rw [ey3, ey14]
  subst qy14
  have qy17 : y6 = y17 := by rw [ey6, ey17]
  subst qy17
  have qy20 : y9 = y20 := by rw [ey9, ey20]
  subst qy20
  refine he_calli (va_runV (As := [.int y3, .int y6, .int y9]) (rest := [.int r10]) ⟨hx, hb, hml, hown, hts⟩ (e_X7_contentX l dC dI dA κ B g mo km y3 y6 y9) (cwV 3 hts gL_law_X7_content rfl rfl rfl (by decide +kernel) ⟨Nat.le_of_ble_eq_true rfl, Nat.le_of_ble_eq_true rfl⟩) (he_preV (q := (RX7, TX7, 24)) [.int y3, .int y6, .int y9] hK hN hW hJ km rfl rfl) rfl rfl hl.1 rfl (lv_room (Nat.le_of_ble_eq_true rfl)) dL_law_441 ⟨(by show 600000 + 0 ≤ 600000; omega), (by show 7302250 + 0 ≤ 7302250; omega)⟩) hJ (fun r21 g22 H locs hp hJ => ?_)
  obtain ⟨hq9, fg22⟩ := hp
  subst hq9
  refine hq_icmp_eq (tgt := 462) hx hb dL_law_444 (by decide) (fun c9 => ?_) (fun c9 => ?_)
  · exact nxt g _ _ ls hEg hJ (lv_sub hl [0, 1, 2, 3] rfl)
  · exact absurd (by rw [fg11, fg22, htab]) c9
set_option maxRecDepth 100000 in
set_option maxHeartbeats 8000000 in
theorem law_check {p : Program} {l : Launch} {e : Env} {s : State} {m : MethodId} {below : List Frame} {meth : Method} {c : Code} {dC : Nat → ClassId} {dI : Nat → Nat → Nat} {dA : Nat → ClassId} {κ : Nat → Nat} {B b L x mo k : Nat} {xs : Nat → Int32} {v : Int32} {g : Nat → Nat → Int} {H : Heap} {locs : List Loc} {ls : Array Slot} (hL : L ≤ 2048) (hx : p.tables.exec = Jvm.exec) (hb : c.code = cL_law) (hml : c.maxLocals = 4) (hown : s.vm.findClass RL = some m.cls) (hts : ∀ w ∈ wsL_law, w.before #[Value.ref b] s = true) (hX : va_X b L xs s s.heap) (hbl : b < s.heap.size) (hbA : ¬ hp_A B b) (hK : va_K (dC, dI) vwCl (hp_ty dA) s) (hN : hp_N s) (hW : hp_W κ B) (kx : κ x = 1) (km : κ mo = 11) (hv : v.toInt = (k : Int)) (hkL : k + 4 ≤ L) (hEg : hg_E g) (hJ : he_J dC dI dA κ B g s.heap H locs) (hl : lv_has ls 4 [(0, .ref b), (1, .ref x), (2, .ref mo), (3, .int v)])
    (nxt : ∀ (g' : Nat → Nat → Int) (H : Heap) (locs : List Loc) (ls : Array Slot), hg_E g' → he_J dC dI dA κ B g' s.heap H locs → lv_has ls 4 [(0, .ref b), (1, .ref x), (2, .ref mo), (3, .int v)] → W p l e room_1 s m #[Value.ref b] below meth c H locs 600000 7302250 (lw_Z below #[Value.ref b] s) (F0 m 462 ls [])) : W p l e room_1 s m #[Value.ref b] below meth c H locs 600000 7302250 (lw_Z below #[Value.ref b] s) (F0 m 449 ls []) := by
  obtain ⟨⟨hwg, hig, hjg, hlg⟩, htab, htc, hty, hup, hhd, h03⟩ := id hEg
  have hszg := he_msz hJ km
  have hkng := he_m13 hJ km
  refine lv_aload_n hx hb dL_law_449 rfl (lv_at hl 1 rfl) ?_
  refine he_calli (va_runV (As := []) (rest := []) ⟨hx, hb, hml, hown, hts⟩ (e_X6_check l dC dI dA κ B g x kx  hwg hig) (cwV 0 hts gL_law_X6_check rfl rfl rfl (by decide +kernel) ⟨Nat.le_of_ble_eq_true rfl, Nat.le_of_ble_eq_true rfl⟩) (he_preV (q := (RX6, TX6, 12)) [] hK hN hW hJ kx rfl rfl) rfl rfl hl.1 rfl (lv_room (Nat.le_of_ble_eq_true rfl)) dL_law_450 ⟨(by show 600000 + 0 ≤ 600000; omega), (by show 7302250 + 0 ≤ 7302250; omega)⟩) hJ (fun r1 g2 H locs hp hJ => ?_)
  obtain ⟨hq9, fg2⟩ := hp
  subst hq9
  refine lv_pop hx hb dL_law_453 rfl ?_
  refine lv_aload_n hx hb dL_law_454 rfl (lv_at hl 2 rfl) ?_
  refine he_calli (va_runV (As := []) (rest := []) ⟨hx, hb, hml, hown, hts⟩ (e_X7_check l dC dI dA κ B g mo km  hjg) (cwV 0 hts gL_law_X7_check rfl rfl rfl (by decide +kernel) ⟨Nat.le_of_ble_eq_true rfl, Nat.le_of_ble_eq_true rfl⟩) (he_preV (q := (RX7, TX7, 24)) [] hK hN hW hJ km rfl rfl) rfl rfl hl.1 rfl (lv_room (Nat.le_of_ble_eq_true rfl)) dL_law_455 ⟨(by show 600000 + 0 ≤ 600000; omega), (by show 7302250 + 0 ≤ 7302250; omega)⟩) hJ (fun r3 g4 H locs hp hJ => ?_)
  obtain ⟨hq9, fg4⟩ := hp
  subst hq9
  refine lv_pop hx hb dL_law_458 rfl ?_
  refine lv_goto (tgt := 462) hx hb dL_law_459 (by decide) ?_
  exact nxt g _ _ ls hEg hJ (lv_sub hl [0, 1, 2, 3] rfl)
