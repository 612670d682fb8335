set_option maxRecDepth 100000 in
set_option maxHeartbeats 8000000 in
theorem law_type {p : Program} {l : Launch} {e : Env} {s : State} {m : MethodId} {below : List Frame} {meth : Method} {c : Code} {dC : Nat → ClassId} {dI : Nat → Nat → Nat} {dA : Nat → ClassId} {κ : Nat → Nat} {B b L x mo k : Nat} {xs : Nat → Int32} {v : Int32} {g : Nat → Nat → Int} {H : Heap} {locs : List Loc} {ls : Array Slot} (hL : L ≤ 2048) (hx : p.tables.exec = Jvm.exec) (hb : c.code = cL_law) (hml : c.maxLocals = 4) (hown : s.vm.findClass RL = some m.cls) (hts : ∀ w ∈ wsL_law, w.before #[Value.ref b] s = true) (hX : va_X b L xs s s.heap) (hbl : b < s.heap.size) (hbA : ¬ hp_A B b) (hK : va_K (dC, dI) vwCl (hp_ty dA) s) (hN : hp_N s) (hW : hp_W κ B) (kx : κ x = 1) (km : κ mo = 11) (hv : v.toInt = (k : Int)) (hkL : k + 4 ≤ L) (hLg : hg_L g) (hJ : he_J dC dI dA κ B g s.heap H locs) (hl : lv_has ls 4 [(0, .ref b), (1, .ref x), (2, .ref mo), (3, .int v)])
    (nxt : ∀ (g' : Nat → Nat → Int) (H : Heap) (locs : List Loc) (ls : Array Slot), hg_L g' → he_J dC dI dA κ B g' s.heap H locs → lv_has ls 4 [(0, .ref b), (1, .ref x), (2, .ref mo), (3, .int v)] → W p l e room_1 s m #[Value.ref b] below meth c H locs 600000 7302250 (lw_Z below #[Value.ref b] s) (F0 m 462 ls [])) : W p l e room_1 s m #[Value.ref b] below meth c H locs 600000 7302250 (lw_Z below #[Value.ref b] s) (F0 m 96 ls []) := by
  refine lv_aload_n hx hb dL_law_96 rfl (lv_at hl 1 rfl) ?_
  refine lv_aload_n hx hb dL_law_97 rfl (lv_at hl 0 rfl) ?_
  refine lv_iload_n hx hb dL_law_98 rfl (lv_at hl 3 rfl) ?_
  refine hq_iconst hx hb dL_law_99 (by decide) (by decide) (fun z1 ez1 => ?_)
  refine hq_iadd hx hb dL_law_100 (by omega) (by omega) (fun w2 ew2 => ?_)
  refine va_sld hx hb hX hbl hbA hJ.2 (hi_in (by omega) (by omega)) dL_law_101 ?_
  refine lv_topi (fun y3 fy3 => ?_)
  have ey3 : y3 = xs (k + 1) := by rw [fy3, show w2.toNatClampNeg = k + 1 by have := hi_cl (x := w2) (by omega); omega]
  refine lv_i2l hx hb dL_law_102 rfl ?_
  refine hq_bipush hx hb dL_law_103 (by decide) (fun z4 ez4 => ?_)
  refine lv_lshl hx hb dL_law_105 rfl ?_
  refine lv_topl (fun a5 _ => ?_)
  refine lv_aload_n hx hb dL_law_106 rfl (lv_at hl 0 rfl) ?_
  refine lv_iload_n hx hb dL_law_107 rfl (lv_at hl 3 rfl) ?_
  refine hq_iconst hx hb dL_law_108 (by decide) (by decide) (fun z6 ez6 => ?_)
  refine hq_iadd hx hb dL_law_109 (by omega) (by omega) (fun w7 ew7 => ?_)
  refine va_sld hx hb hX hbl hbA hJ.2 (hi_in (by omega) (by omega)) dL_law_110 ?_
  refine lv_topi (fun y8 fy8 => ?_)
  have ey8 : y8 = xs (k + 2) := by rw [fy8, show w7.toNatClampNeg = k + 2 by have := hi_cl (x := w7) (by omega); omega]
  refine lv_i2l hx hb dL_law_111 rfl ?_
  refine lv_ldc2 hx hb hown (hts (.constantLong RL 13 (4294967295)) (List.mem_of_getElem? (i := 6) rfl)) dL_law_112 ?_
  refine lv_land hx hb dL_law_115 ?_
  refine lv_lor hx hb dL_law_116 ?_
  refine lv_topl (fun a9 _ => ?_)
  refine lv_aload_n hx hb dL_law_117 rfl (lv_at hl 0 rfl) ?_
  refine lv_iload_n hx hb dL_law_118 rfl (lv_at hl 3 rfl) ?_
  refine hq_iconst hx hb dL_law_119 (by decide) (by decide) (fun z10 ez10 => ?_)
  refine hq_iadd hx hb dL_law_120 (by omega) (by omega) (fun w11 ew11 => ?_)
  refine va_sld hx hb hX hbl hbA hJ.2 (hi_in (by omega) (by omega)) dL_law_121 ?_
  refine lv_topi (fun y12 fy12 => ?_)
  have ey12 : y12 = xs (k + 3) := by rw [fy12, show w11.toNatClampNeg = k + 3 by have := hi_cl (x := w11) (by omega); omega]
  have hszg14 := he_msz hJ km
  have hkng14 := he_m13 hJ km
  refine he_calli (va_runV (As := [.long a9, .int y12]) (rest := []) ⟨hx, hb, hml, hown, hts⟩ (e_X6_type l dC dI dA κ B g x kx a9 y12) (cwV 2 hts gL_law_X6_type rfl rfl rfl (by decide +kernel) ⟨Nat.le_of_ble_eq_true rfl, Nat.le_of_ble_eq_true rfl⟩) (he_preV (q := (RX6, TX6, 12)) [.long a9, .int y12] hK hN hW hJ kx rfl rfl) rfl rfl hl.1 rfl (lv_room (Nat.le_of_ble_eq_true rfl)) dL_law_122 ⟨(by show 600000 + 0 ≤ 600000; omega), (by show 7302250 + 0 ≤ 7302250; omega)⟩) hJ (fun r13 g14 H locs hp hJ => ?_)
  have P9 := hp
  obtain ⟨t9, w9⟩ := hc_tab_same hLg.1 (u := g14) (fun a b h9 => P9 a b (fun h8 => by have h8 : (a = 1 ∧ b = 1) ∨ a = 12 := h8; unfold hc_f at h9; omega))
  have hL16 : hg_L g14 := hLg.cl hszg14 hkng14.2 (fun a b h9 => P9 a b (fun h8 => by have h8 : (a = 1 ∧ b = 1) ∨ a = 12 := h8; omega)) w9 (by rw [t9]; exact hLg.2.1.up (fun r9 hr9 q9 => by have hr8 := hLg.2.1.1 r9 hr9; rw [P9 (5 + r9.1.toNat) 0 (fun h8 => by have h8 : ((5 + r9.1.toNat) = 1 ∧ 0 = 1) ∨ (5 + r9.1.toNat) = 12 := h8; omega)]; exact q9))
  refine lv_pop hx hb dL_law_125 rfl ?_
  refine lv_aload_n hx hb dL_law_126 rfl (lv_at hl 2 rfl) ?_
  refine lv_aload_n hx hb dL_law_127 rfl (lv_at hl 0 rfl) ?_
  refine lv_iload_n hx hb dL_law_128 rfl (lv_at hl 3 rfl) ?_
  refine hq_iconst hx hb dL_law_129 (by decide) (by decide) (fun z17 ez17 => ?_)
  refine hq_iadd hx hb dL_law_130 (by omega) (by omega) (fun w18 ew18 => ?_)
  refine va_sld hx hb hX hbl hbA hJ.2 (hi_in (by omega) (by omega)) dL_law_131 ?_
  refine lv_topi (fun y19 fy19 => ?_)
  have ey19 : y19 = xs (k + 1) := by rw [fy19, show w18.toNatClampNeg = k + 1 by have := hi_cl (x := w18) (by omega); omega]
  refine lv_i2l hx hb dL_law_132 rfl ?_
  refine hq_bipush hx hb dL_law_133 (by decide) (fun z20 ez20 => ?_)
  refine lv_lshl hx hb dL_law_135 rfl ?_
  refine lv_topl (fun a21 _ => ?_)
  refine lv_aload_n hx hb dL_law_136 rfl (lv_at hl 0 rfl) ?_
  refine lv_iload_n hx hb dL_law_137 rfl (lv_at hl 3 rfl) ?_
  refine hq_iconst hx hb dL_law_138 (by decide) (by decide) (fun z22 ez22 => ?_)
  refine hq_iadd hx hb dL_law_139 (by omega) (by omega) (fun w23 ew23 => ?_)
  refine va_sld hx hb hX hbl hbA hJ.2 (hi_in (by omega) (by omega)) dL_law_140 ?_
  refine lv_topi (fun y24 fy24 => ?_)
  have ey24 : y24 = xs (k + 2) := by rw [fy24, show w23.toNatClampNeg = k + 2 by have := hi_cl (x := w23) (by omega); omega]
  refine lv_i2l hx hb dL_law_141 rfl ?_
  refine lv_ldc2 hx hb hown (hts (.constantLong RL 13 (4294967295)) (List.mem_of_getElem? (i := 6) rfl)) dL_law_142 ?_
  refine lv_land hx hb dL_law_145 ?_
  refine lv_lor hx hb dL_law_146 ?_
  refine lv_topl (fun a25 _ => ?_)
  refine lv_aload_n hx hb dL_law_147 rfl (lv_at hl 0 rfl) ?_
  refine lv_iload_n hx hb dL_law_148 rfl (lv_at hl 3 rfl) ?_
  refine hq_iconst hx hb dL_law_149 (by decide) (by decide) (fun z26 ez26 => ?_)
  refine hq_iadd hx hb dL_law_150 (by omega) (by omega) (fun w27 ew27 => ?_)
  refine va_sld hx hb hX hbl hbA hJ.2 (hi_in (by omega) (by omega)) dL_law_151 ?_
  refine lv_topi (fun y28 fy28 => ?_)
  have ey28 : y28 = xs (k + 3) := by rw [fy28, show w27.toNatClampNeg = k + 3 by have := hi_cl (x := w27) (by omega); omega]
  have qy28 : y12 = y28 := by rw [ey12, ey28]
  subst qy28
  have hszg30 := he_msz hJ km
  have hkng30 := he_m13 hJ km
  refine he_calli (va_runV (As := [.long a25, .int y12]) (rest := []) ⟨hx, hb, hml, hown, hts⟩ (e_X7_type l dC dI dA κ B g14 mo km a25 y12) (cwV 2 hts gL_law_X7_type rfl rfl rfl (by decide +kernel) ⟨Nat.le_of_ble_eq_true rfl, Nat.le_of_ble_eq_true rfl⟩) (he_preV (q := (RX7, TX7, 24)) [.long a25, .int y12] hK hN hW hJ km rfl rfl) rfl rfl hl.1 rfl (lv_room (Nat.le_of_ble_eq_true rfl)) dL_law_152 ⟨(by show 600000 + 0 ≤ 600000; omega), (by show 7302250 + 0 ≤ 7302250; omega)⟩) hJ (fun r29 g30 H locs hp hJ => ?_)
  have P9 := hp
  have t9 : hm_tab g30 = hm_tab g14 := hm_tab_same hszg30 hkng30.2 (P9 11 13 (fun h8 => by have h8 : (11 = 11 ∧ 13 = 1) ∨ 11 = 38 := h8; omega)) (fun a b h9 => P9 a b (fun h8 => by have h8 : (a = 11 ∧ b = 1) ∨ a = 38 := h8; omega))
  have e9 : g30 27 12 = g14 27 12 := P9 27 12 (fun h8 => by have h8 : (27 = 11 ∧ 12 = 1) ∨ 27 = 38 := h8; omega)
  have hL32 : hg_L g30 := hL16.mo (fun a b h9 => P9 a b (fun h8 => by have h8 : (a = 11 ∧ b = 1) ∨ a = 38 := h8; omega)) (by rw [t9]; exact hL16.2.2.1.up (fun r9 _ q9 => by show g30 20 r9.1.toNat = 1; rw [P9 20 r9.1.toNat (fun h8 => by have h8 : (20 = 11 ∧ r9.1.toNat = 1) ∨ 20 = 38 := h8; omega)]; exact q9)) (by rw [e9]; exact hL16.2.2.2)
  refine lv_pop hx hb dL_law_155 rfl ?_
  refine lv_goto (tgt := 462) hx hb dL_law_156 (by decide) ?_
  exact nxt g30 _ _ ls hL32 hJ (lv_sub hl [0, 1, 2, 3] rfl)
set_option maxRecDepth 100000 in
set_option maxHeartbeats 8000000 in
theorem law_tell {p : Program} {l : Launch} {e : Env} {s : State} {m : MethodId} {below : List Frame} {meth : Method} {c : Code} {dC : Nat → ClassId} {dI : Nat → Nat → Nat} {dA : Nat → ClassId} {κ : Nat → Nat} {B b L x mo k : Nat} {xs : Nat → Int32} {v : Int32} {g : Nat → Nat → Int} {H : Heap} {locs : List Loc} {ls : Array Slot} (hL : L ≤ 2048) (hx : p.tables.exec = Jvm.exec) (hb : c.code = cL_law) (hml : c.maxLocals = 4) (hown : s.vm.findClass RL = some m.cls) (hts : ∀ w ∈ wsL_law, w.before #[Value.ref b] s = true) (hX : va_X b L xs s s.heap) (hbl : b < s.heap.size) (hbA : ¬ hp_A B b) (hK : va_K (dC, dI) vwCl (hp_ty dA) s) (hN : hp_N s) (hW : hp_W κ B) (kx : κ x = 1) (km : κ mo = 11) (hv : v.toInt = (k : Int)) (hkL : k + 4 ≤ L) (hLg : hg_L g) (hJ : he_J dC dI dA κ B g s.heap H locs) (hl : lv_has ls 4 [(0, .ref b), (1, .ref x), (2, .ref mo), (3, .int v)])
    (nxt : ∀ (g' : Nat → Nat → Int) (H : Heap) (locs : List Loc) (ls : Array Slot), hg_L g' → he_J dC dI dA κ B g' s.heap H locs → lv_has ls 4 [(0, .ref b), (1, .ref x), (2, .ref mo), (3, .int v)] → W p l e room_1 s m #[Value.ref b] below meth c H locs 600000 7302250 (lw_Z below #[Value.ref b] s) (F0 m 462 ls [])) : W p l e room_1 s m #[Value.ref b] below meth c H locs 600000 7302250 (lw_Z below #[Value.ref b] s) (F0 m 159 ls []) := by
  refine lv_aload_n hx hb dL_law_159 rfl (lv_at hl 1 rfl) ?_
  refine lv_aload_n hx hb dL_law_160 rfl (lv_at hl 0 rfl) ?_
  refine lv_iload_n hx hb dL_law_161 rfl (lv_at hl 3 rfl) ?_
  refine hq_iconst hx hb dL_law_162 (by decide) (by decide) (fun z1 ez1 => ?_)
  refine hq_iadd hx hb dL_law_163 (by omega) (by omega) (fun w2 ew2 => ?_)
  refine va_sld hx hb hX hbl hbA hJ.2 (hi_in (by omega) (by omega)) dL_law_164 ?_
  refine lv_topi (fun y3 fy3 => ?_)
  have ey3 : y3 = xs (k + 1) := by rw [fy3, show w2.toNatClampNeg = k + 1 by have := hi_cl (x := w2) (by omega); omega]
  have hszg5 := he_msz hJ km
  have hkng5 := he_m13 hJ km
  refine he_calli (va_runV (As := [.int y3]) (rest := []) ⟨hx, hb, hml, hown, hts⟩ (e_X6_tell l dC dI dA κ B g x kx y3) (cwV 1 hts gL_law_X6_tell rfl rfl rfl (by decide +kernel) ⟨Nat.le_of_ble_eq_true rfl, Nat.le_of_ble_eq_true rfl⟩) (he_preV (q := (RX6, TX6, 12)) [.int y3] hK hN hW hJ kx rfl rfl) rfl rfl hl.1 rfl (lv_room (Nat.le_of_ble_eq_true rfl)) dL_law_165 ⟨(by show 600000 + 0 ≤ 600000; omega), (by show 7302250 + 0 ≤ 7302250; omega)⟩) hJ (fun r4 g5 H locs hp hJ => ?_)
  have P9 := hp
  obtain ⟨t9, w9⟩ := hc_tab_same hLg.1 (u := g5) (fun a b h9 => P9 a b (fun h8 => by have h8 : (5 ≤ a ∧ a < 9 ∧ b ≠ 0) ∨ a = 353 ∨ a = 373 ∨ (a = 1 ∧ b = 1) := h8; unfold hc_f at h9; omega))
  have hL7 : hg_L g5 := hLg.cl hszg5 hkng5.2 (fun a b h9 => P9 a b (fun h8 => by have h8 : (5 ≤ a ∧ a < 9 ∧ b ≠ 0) ∨ a = 353 ∨ a = 373 ∨ (a = 1 ∧ b = 1) := h8; omega)) w9 (by rw [t9]; exact hLg.2.1.up (fun r9 hr9 q9 => by have hr8 := hLg.2.1.1 r9 hr9; rw [P9 (5 + r9.1.toNat) 0 (fun h8 => by have h8 : (5 ≤ (5 + r9.1.toNat) ∧ (5 + r9.1.toNat) < 9 ∧ 0 ≠ 0) ∨ (5 + r9.1.toNat) = 353 ∨ (5 + r9.1.toNat) = 373 ∨ ((5 + r9.1.toNat) = 1 ∧ 0 = 1) := h8; omega)]; exact q9))
  refine lv_pop hx hb dL_law_168 rfl ?_
  refine lv_aload_n hx hb dL_law_169 rfl (lv_at hl 2 rfl) ?_
  refine lv_aload_n hx hb dL_law_170 rfl (lv_at hl 0 rfl) ?_
  refine lv_iload_n hx hb dL_law_171 rfl (lv_at hl 3 rfl) ?_
  refine hq_iconst hx hb dL_law_172 (by decide) (by decide) (fun z8 ez8 => ?_)
  refine hq_iadd hx hb dL_law_173 (by omega) (by omega) (fun w9 ew9 => ?_)
  refine va_sld hx hb hX hbl hbA hJ.2 (hi_in (by omega) (by omega)) dL_law_174 ?_
  refine lv_topi (fun y10 fy10 => ?_)
  have ey10 : y10 = xs (k + 1) := by rw [fy10, show w9.toNatClampNeg = k + 1 by have := hi_cl (x := w9) (by omega); omega]
  have qy10 : y3 = y10 := by rw [ey3, ey10]
  subst qy10
  have hszg12 := he_msz hJ km
  have hkng12 := he_m13 hJ km
  refine he_calli (va_runV (As := [.int y3]) (rest := []) ⟨hx, hb, hml, hown, hts⟩ (e_X7_tell l dC dI dA κ B g5 mo km y3) (cwV 1 hts gL_law_X7_tell rfl rfl rfl (by decide +kernel) ⟨Nat.le_of_ble_eq_true rfl, Nat.le_of_ble_eq_true rfl⟩) (he_preV (q := (RX7, TX7, 24)) [.int y3] hK hN hW hJ km rfl rfl) rfl rfl hl.1 rfl (lv_room (Nat.le_of_ble_eq_true rfl)) dL_law_175 ⟨(by show 600000 + 0 ≤ 600000; omega), (by show 7302250 + 0 ≤ 7302250; omega)⟩) hJ (fun r11 g12 H locs hp hJ => ?_)
  have P9 := hp
  have t9 : hm_tab g12 = hm_tab g5 := hm_tab_same hszg12 hkng12.2 (P9 11 13 (fun h8 => by have h8 : (11 = 11 ∧ 13 = 1) ∨ 11 = 24 := h8; omega)) (fun a b h9 => P9 a b (fun h8 => by have h8 : (a = 11 ∧ b = 1) ∨ a = 24 := h8; omega))
  have e9 : g12 27 12 = g5 27 12 := P9 27 12 (fun h8 => by have h8 : (27 = 11 ∧ 12 = 1) ∨ 27 = 24 := h8; omega)
  have hL14 : hg_L g12 := hL7.mo (fun a b h9 => P9 a b (fun h8 => by have h8 : (a = 11 ∧ b = 1) ∨ a = 24 := h8; omega)) (by rw [t9]; exact hL7.2.2.1.up (fun r9 _ q9 => by show g12 20 r9.1.toNat = 1; rw [P9 20 r9.1.toNat (fun h8 => by have h8 : (20 = 11 ∧ r9.1.toNat = 1) ∨ 20 = 24 := h8; omega)]; exact q9)) (by rw [e9]; exact hL7.2.2.2)
  refine lv_pop hx hb dL_law_178 rfl ?_
  refine lv_goto (tgt := 462) hx hb dL_law_179 (by decide) ?_
  exact nxt g12 _ _ ls hL14 hJ (lv_sub hl [0, 1, 2, 3] rfl)
set_option maxRecDepth 100000 in
set_option maxHeartbeats 8000000 in
theorem law_set {p : Program} {l : Launch} {e : Env} {s : State} {m : MethodId} {below : List Frame} {meth : Method} {c : Code} {dC : Nat → ClassId} {dI : Nat → Nat → Nat} {dA : Nat → ClassId} {κ : Nat → Nat} {B b L x mo k : Nat} {xs : Nat → Int32} {v : Int32} {g : Nat → Nat → Int} {H : Heap} {locs : List Loc} {ls : Array Slot} (hL : L ≤ 2048) (hx : p.tables.exec = Jvm.exec) (hb : c.code = cL_law) (hml : c.maxLocals = 4) (hown : s.vm.findClass RL = some m.cls) (hts : ∀ w ∈ wsL_law, w.before #[Value.ref b] s = true) (hX : va_X b L xs s s.heap) (hbl : b < s.heap.size) (hbA : ¬ hp_A B b) (hK : va_K (dC, dI) vwCl (hp_ty dA) s) (hN : hp_N s) (hW : hp_W κ B) (kx : κ x = 1) (km : κ mo = 11) (hv : v.toInt = (k : Int)) (hkL : k + 4 ≤ L) (hLg : hg_L g) (hJ : he_J dC dI dA κ B g s.heap H locs) (hl : lv_has ls 4 [(0, .ref b), (1, .ref x), (2, .ref mo), (3, .int v)])
    (nxt : ∀ (g' : Nat → Nat → Int) (H : Heap) (locs : List Loc) (ls : Array Slot), hg_L g' → he_J dC dI dA κ B g' s.heap H locs → lv_has ls 4 [(0, .ref b), (1, .ref x), (2, .ref mo), (3, .int v)] → W p l e room_1 s m #[Value.ref b] below meth c H locs 600000 7302250 (lw_Z below #[Value.ref b] s) (F0 m 462 ls [])) : W p l e room_1 s m #[Value.ref b] below meth c H locs 600000 7302250 (lw_Z below #[Value.ref b] s) (F0 m 182 ls []) := by
  refine lv_aload_n hx hb dL_law_182 rfl (lv_at hl 1 rfl) ?_
  refine lv_aload_n hx hb dL_law_183 rfl (lv_at hl 0 rfl) ?_
  refine lv_iload_n hx hb dL_law_184 rfl (lv_at hl 3 rfl) ?_
  refine hq_iconst hx hb dL_law_185 (by decide) (by decide) (fun z1 ez1 => ?_)
  refine hq_iadd hx hb dL_law_186 (by omega) (by omega) (fun w2 ew2 => ?_)
  refine va_sld hx hb hX hbl hbA hJ.2 (hi_in (by omega) (by omega)) dL_law_187 ?_
  refine lv_topi (fun y3 fy3 => ?_)
  have ey3 : y3 = xs (k + 1) := by rw [fy3, show w2.toNatClampNeg = k + 1 by have := hi_cl (x := w2) (by omega); omega]
  refine lv_aload_n hx hb dL_law_188 rfl (lv_at hl 0 rfl) ?_
  refine lv_iload_n hx hb dL_law_189 rfl (lv_at hl 3 rfl) ?_
  refine hq_iconst hx hb dL_law_190 (by decide) (by decide) (fun z4 ez4 => ?_)
  refine hq_iadd hx hb dL_law_191 (by omega) (by omega) (fun w5 ew5 => ?_)
  refine va_sld hx hb hX hbl hbA hJ.2 (hi_in (by omega) (by omega)) dL_law_192 ?_
  refine lv_topi (fun y6 fy6 => ?_)
  have ey6 : y6 = xs (k + 2) := by rw [fy6, show w5.toNatClampNeg = k + 2 by have := hi_cl (x := w5) (by omega); omega]
  have hszg8 := he_msz hJ km
  have hkng8 := he_m13 hJ km
  refine he_calli (va_runV (As := [.int y3, .int y6]) (rest := []) ⟨hx, hb, hml, hown, hts⟩ (e_X6_set l dC dI dA κ B g x kx y3 y6) (cwV 2 hts gL_law_X6_set rfl rfl rfl (by decide +kernel) ⟨Nat.le_of_ble_eq_true rfl, Nat.le_of_ble_eq_true rfl⟩) (he_preV (q := (RX6, TX6, 12)) [.int y3, .int y6] hK hN hW hJ kx rfl rfl) rfl rfl hl.1 rfl (lv_room (Nat.le_of_ble_eq_true rfl)) dL_law_193 ⟨(by show 600000 + 0 ≤ 600000; omega), (by show 7302250 + 0 ≤ 7302250; omega)⟩) hJ (fun r7 g8 H locs hp hJ => ?_)
  subst hp
  refine lv_pop hx hb dL_law_196 rfl ?_
  refine lv_aload_n hx hb dL_law_197 rfl (lv_at hl 2 rfl) ?_
  refine lv_aload_n hx hb dL_law_198 rfl (lv_at hl 0 rfl) ?_
  refine lv_iload_n hx hb dL_law_199 rfl (lv_at hl 3 rfl) ?_
  refine hq_iconst hx hb dL_law_200 (by decide) (by decide) (fun z11 ez11 => ?_)
  refine hq_iadd hx hb dL_law_201 (by omega) (by omega) (fun w12 ew12 => ?_)
  refine va_sld hx hb hX hbl hbA hJ.2 (hi_in (by omega) (by omega)) dL_law_202 ?_
  refine lv_topi (fun y13 fy13 => ?_)
  have ey13 : y13 = xs (k + 1) := by rw [fy13, show w12.toNatClampNeg = k + 1 by have := hi_cl (x := w12) (by omega); omega]
  refine lv_aload_n hx hb dL_law_203 rfl (lv_at hl 0 rfl) ?_
  refine lv_iload_n hx hb dL_law_204 rfl (lv_at hl 3 rfl) ?_
  refine hq_iconst hx hb dL_law_205 (by decide) (by decide) (fun z14 ez14 => ?_)
  refine hq_iadd hx hb dL_law_206 (by omega) (by omega) (fun w15 ew15 => ?_)
  refine va_sld hx hb hX hbl hbA hJ.2 (hi_in (by omega) (by omega)) dL_law_207 ?_
  refine lv_topi (fun y16 fy16 => ?_)
  have ey16 : y16 = xs (k + 2) := by rw [fy16, show w15.toNatClampNeg = k + 2 by have := hi_cl (x := w15) (by omega); omega]
  have qy13 : y3 = y13 := by rw [ey3, ey13]
  subst qy13
  have qy16 : y6 = y16 := by rw [ey6, ey16]
  subst qy16
  have hszg18 := he_msz hJ km
  have hkng18 := he_m13 hJ km
  refine he_calli (va_runV (As := [.int y3, .int y6]) (rest := []) ⟨hx, hb, hml, hown, hts⟩ (e_X7_set l dC dI dA κ B g mo km y3 y6) (cwV 2 hts gL_law_X7_set rfl rfl rfl (by decide +kernel) ⟨Nat.le_of_ble_eq_true rfl, Nat.le_of_ble_eq_true rfl⟩) (he_preV (q := (RX7, TX7, 24)) [.int y3, .int y6] hK hN hW hJ km rfl rfl) rfl rfl hl.1 rfl (lv_room (Nat.le_of_ble_eq_true rfl)) dL_law_208 ⟨(by show 600000 + 0 ≤ 600000; omega), (by show 7302250 + 0 ≤ 7302250; omega)⟩) hJ (fun r17 g18 H locs hp hJ => ?_)
  subst hp
  refine lv_pop hx hb dL_law_211 rfl ?_
  refine lv_goto (tgt := 462) hx hb dL_law_212 (by decide) ?_
  exact nxt g _ _ ls hLg hJ (lv_sub hl [0, 1, 2, 3] rfl)
set_option maxRecDepth 100000 in
set_option maxHeartbeats 8000000 in
theorem law_port {p : Program} {l : Launch} {e : Env} {s : State} {m : MethodId} {below : List Frame} {meth : Method} {c : Code} {dC : Nat → ClassId} {dI : Nat → Nat → Nat} {dA : Nat → ClassId} {κ : Nat → Nat} {B b L x mo k : Nat} {xs : Nat → Int32} {v : Int32} {g : Nat → Nat → Int} {H : Heap} {locs : List Loc} {ls : Array Slot} (hL : L ≤ 2048) (hx : p.tables.exec = Jvm.exec) (hb : c.code = cL_law) (hml : c.maxLocals = 4) (hown : s.vm.findClass RL = some m.cls) (hts : ∀ w ∈ wsL_law, w.before #[Value.ref b] s = true) (hX : va_X b L xs s s.heap) (hbl : b < s.heap.size) (hbA : ¬ hp_A B b) (hK : va_K (dC, dI) vwCl (hp_ty dA) s) (hN : hp_N s) (hW : hp_W κ B) (kx : κ x = 1) (km : κ mo = 11) (hv : v.toInt = (k : Int)) (hkL : k + 4 ≤ L) (hLg : hg_L g) (hJ : he_J dC dI dA κ B g s.heap H locs) (hl : lv_has ls 4 [(0, .ref b), (1, .ref x), (2, .ref mo), (3, .int v)])
    (nxt : ∀ (g' : Nat → Nat → Int) (H : Heap) (locs : List Loc) (ls : Array Slot), hg_L g' → he_J dC dI dA κ B g' s.heap H locs → lv_has ls 4 [(0, .ref b), (1, .ref x), (2, .ref mo), (3, .int v)] → W p l e room_1 s m #[Value.ref b] below meth c H locs 600000 7302250 (lw_Z below #[Value.ref b] s) (F0 m 462 ls [])) : W p l e room_1 s m #[Value.ref b] below meth c H locs 600000 7302250 (lw_Z below #[Value.ref b] s) (F0 m 215 ls []) := by
  refine lv_aload_n hx hb dL_law_215 rfl (lv_at hl 1 rfl) ?_
  refine lv_aload_n hx hb dL_law_216 rfl (lv_at hl 0 rfl) ?_
  refine lv_iload_n hx hb dL_law_217 rfl (lv_at hl 3 rfl) ?_
  refine hq_iconst hx hb dL_law_218 (by decide) (by decide) (fun z1 ez1 => ?_)
  refine hq_iadd hx hb dL_law_219 (by omega) (by omega) (fun w2 ew2 => ?_)
  refine va_sld hx hb hX hbl hbA hJ.2 (hi_in (by omega) (by omega)) dL_law_220 ?_
  refine lv_topi (fun y3 fy3 => ?_)
  have ey3 : y3 = xs (k + 1) := by rw [fy3, show w2.toNatClampNeg = k + 1 by have := hi_cl (x := w2) (by omega); omega]
  refine lv_aload_n hx hb dL_law_221 rfl (lv_at hl 0 rfl) ?_
  refine lv_iload_n hx hb dL_law_222 rfl (lv_at hl 3 rfl) ?_
  refine hq_iconst hx hb dL_law_223 (by decide) (by decide) (fun z4 ez4 => ?_)
  refine hq_iadd hx hb dL_law_224 (by omega) (by omega) (fun w5 ew5 => ?_)
  refine va_sld hx hb hX hbl hbA hJ.2 (hi_in (by omega) (by omega)) dL_law_225 ?_
  refine lv_topi (fun y6 fy6 => ?_)
  have ey6 : y6 = xs (k + 2) := by rw [fy6, show w5.toNatClampNeg = k + 2 by have := hi_cl (x := w5) (by omega); omega]
  have hszg8 := he_msz hJ km
  have hkng8 := he_m13 hJ km
  refine he_calli (va_runV (As := [.int y3, .int y6]) (rest := []) ⟨hx, hb, hml, hown, hts⟩ (e_X6_port l dC dI dA κ B g x kx y3 y6 hLg.1) (cwV 2 hts gL_law_X6_port rfl rfl rfl (by decide +kernel) ⟨Nat.le_of_ble_eq_true rfl, Nat.le_of_ble_eq_true rfl⟩) (he_preV (q := (RX6, TX6, 12)) [.int y3, .int y6] hK hN hW hJ kx rfl rfl) rfl rfl hl.1 rfl (lv_room (Nat.le_of_ble_eq_true rfl)) dL_law_226 ⟨(by show 600000 + 0 ≤ 600000; omega), (by show 7302250 + 0 ≤ 7302250; omega)⟩) hJ (fun r7 g8 H locs hp hJ => ?_)
  obtain ⟨P9, f9⟩ := hp
  have hL10 : hg_L g8 := by
    rcases f9 with ⟨hc, hu1, w9, t9, fl9⟩ | ⟨hc, hu0, w9, t9, fl9⟩ | ⟨hc, he9⟩
    · refine hLg.cl hszg8 hkng8.2 (fun a b h9 => P9 a b (fun h8 => by have h8 : (5 ≤ a ∧ a < 9) ∨ a = 4 ∨ (a = 10 ∧ b = 1) ∨ a = 16 := h8; omega)) w9 ?_
      rw [t9]
      refine hLg.2.1.up (fun r9 hr9 q9 => ?_)
      have hr8 := hLg.2.1.1 r9 hr9
      rw [fl9 r9.1.toNat (by omega)]
      split
      · exact hu1
      · exact q9
    · refine hLg.cl hszg8 hkng8.2 (fun a b h9 => P9 a b (fun h8 => by have h8 : (5 ≤ a ∧ a < 9) ∨ a = 4 ∨ (a = 10 ∧ b = 1) ∨ a = 16 := h8; omega)) w9 ?_
      rw [t9]
      exact hLg.2.1.port (by omega) (fun j hj hjp => by show g8 (5 + j) 0 = _; rw [fl9 j hj, if_neg hjp])
    · rw [← he9]; exact hLg
  refine lv_pop hx hb dL_law_229 rfl ?_
  refine lv_aload_n hx hb dL_law_230 rfl (lv_at hl 2 rfl) ?_
  refine lv_aload_n hx hb dL_law_231 rfl (lv_at hl 0 rfl) ?_
  refine lv_iload_n hx hb dL_law_232 rfl (lv_at hl 3 rfl) ?_
  refine hq_iconst hx hb dL_law_233 (by decide) (by decide) (fun z11 ez11 => ?_)
  refine hq_iadd hx hb dL_law_234 (by omega) (by omega) (fun w12 ew12 => ?_)
  refine va_sld hx hb hX hbl hbA hJ.2 (hi_in (by omega) (by omega)) dL_law_235 ?_
  refine lv_topi (fun y13 fy13 => ?_)
  have ey13 : y13 = xs (k + 1) := by rw [fy13, show w12.toNatClampNeg = k + 1 by have := hi_cl (x := w12) (by omega); omega]
  refine lv_aload_n hx hb dL_law_236 rfl (lv_at hl 0 rfl) ?_
  refine lv_iload_n hx hb dL_law_237 rfl (lv_at hl 3 rfl) ?_
  refine hq_iconst hx hb dL_law_238 (by decide) (by decide) (fun z14 ez14 => ?_)
  refine hq_iadd hx hb dL_law_239 (by omega) (by omega) (fun w15 ew15 => ?_)
  refine va_sld hx hb hX hbl hbA hJ.2 (hi_in (by omega) (by omega)) dL_law_240 ?_
  refine lv_topi (fun y16 fy16 => ?_)
  have ey16 : y16 = xs (k + 2) := by rw [fy16, show w15.toNatClampNeg = k + 2 by have := hi_cl (x := w15) (by omega); omega]
  have qy13 : y3 = y13 := by rw [ey3, ey13]
  subst qy13
  have qy16 : y6 = y16 := by rw [ey6, ey16]
  subst qy16
  have hszg18 := he_msz hJ km
  have hkng18 := he_m13 hJ km
  refine he_calli (va_runV (As := [.int y3, .int y6]) (rest := []) ⟨hx, hb, hml, hown, hts⟩ (e_X7_port l dC dI dA κ B g8 mo km y3 y6) (cwV 2 hts gL_law_X7_port rfl rfl rfl (by decide +kernel) ⟨Nat.le_of_ble_eq_true rfl, Nat.le_of_ble_eq_true rfl⟩) (he_preV (q := (RX7, TX7, 24)) [.int y3, .int y6] hK hN hW hJ km rfl rfl) rfl rfl hl.1 rfl (lv_room (Nat.le_of_ble_eq_true rfl)) dL_law_241 ⟨(by show 600000 + 0 ≤ 600000; omega), (by show 7302250 + 0 ≤ 7302250; omega)⟩) hJ (fun r17 g18 H locs hp hJ => ?_)
  obtain ⟨P9, f19⟩ := hp
  obtain ⟨f19, e9⟩ := f19
  have hL20 : hg_L g18 := by
    rcases f19 with ⟨hc, hu1, t9, fl9⟩ | ⟨hc, hu0, t9, fl9⟩ | ⟨hc, he9⟩
    · refine hL10.mo (fun a b h9 => P9 a b (fun h8 => by have h8 : a = 11 ∧ (b = 13 ∨ b = 22 ∨ b = 23) ∨ (20 ≤ a ∧ a ≤ 30) := h8; omega)) ?_ (by rw [e9]; exact hL10.2.2.2)
      rw [t9]
      refine hL10.2.2.1.up (fun r9 hr9 q9 => ?_)
      have hr8 := hL10.2.2.1.1 r9 hr9
      show g18 20 r9.1.toNat = 1
      rw [fl9 r9.1.toNat (by omega)]
      split
      · exact hu1
      · exact q9
    · refine hL10.mo (fun a b h9 => P9 a b (fun h8 => by have h8 : a = 11 ∧ (b = 13 ∨ b = 22 ∨ b = 23) ∨ (20 ≤ a ∧ a ≤ 30) := h8; omega)) ?_ (by rw [e9]; exact hL10.2.2.2)
      rw [t9]
      exact hL10.2.2.1.port (by omega) (fun j hj hjp => by show g18 20 j = _; rw [fl9 j hj, if_neg hjp])
    · rw [← he9]; exact hL10
  refine lv_pop hx hb dL_law_244 rfl ?_
  refine lv_goto (tgt := 462) hx hb dL_law_245 (by decide) ?_
  exact nxt g18 _ _ ls hL20 hJ (lv_sub hl [0, 1, 2, 3] rfl)
set_option maxRecDepth 100000 in
set_option maxHeartbeats 8000000 in
theorem law_hear {p : Program} {l : Launch} {e : Env} {s : State} {m : MethodId} {below : List Frame} {meth : Method} {c : Code} {dC : Nat → ClassId} {dI : Nat → Nat → Nat} {dA : Nat → ClassId} {κ : Nat → Nat} {B b L x mo k : Nat} {xs : Nat → Int32} {v : Int32} {g : Nat → Nat → Int} {H : Heap} {locs : List Loc} {ls : Array Slot} (hL : L ≤ 2048) (hx : p.tables.exec = Jvm.exec) (hb : c.code = cL_law) (hml : c.maxLocals = 4) (hown : s.vm.findClass RL = some m.cls) (hts : ∀ w ∈ wsL_law, w.before #[Value.ref b] s = true) (hX : va_X b L xs s s.heap) (hbl : b < s.heap.size) (hbA : ¬ hp_A B b) (hK : va_K (dC, dI) vwCl (hp_ty dA) s) (hN : hp_N s) (hW : hp_W κ B) (kx : κ x = 1) (km : κ mo = 11) (hv : v.toInt = (k : Int)) (hkL : k + 4 ≤ L) (hLg : hg_L g) (hJ : he_J dC dI dA κ B g s.heap H locs) (hl : lv_has ls 4 [(0, .ref b), (1, .ref x), (2, .ref mo), (3, .int v)])
    (nxt : ∀ (g' : Nat → Nat → Int) (H : Heap) (locs : List Loc) (ls : Array Slot), hg_L g' → he_J dC dI dA κ B g' s.heap H locs → lv_has ls 4 [(0, .ref b), (1, .ref x), (2, .ref mo), (3, .int v)] → W p l e room_1 s m #[Value.ref b] below meth c H locs 600000 7302250 (lw_Z below #[Value.ref b] s) (F0 m 462 ls [])) : W p l e room_1 s m #[Value.ref b] below meth c H locs 600000 7302250 (lw_Z below #[Value.ref b] s) (F0 m 248 ls []) := by
  refine lv_aload_n hx hb dL_law_248 rfl (lv_at hl 1 rfl) ?_
  refine lv_aload_n hx hb dL_law_249 rfl (lv_at hl 0 rfl) ?_
  refine lv_iload_n hx hb dL_law_250 rfl (lv_at hl 3 rfl) ?_
  refine hq_iconst hx hb dL_law_251 (by decide) (by decide) (fun z1 ez1 => ?_)
  refine hq_iadd hx hb dL_law_252 (by omega) (by omega) (fun w2 ew2 => ?_)
  refine va_sld hx hb hX hbl hbA hJ.2 (hi_in (by omega) (by omega)) dL_law_253 ?_
  refine lv_topi (fun y3 fy3 => ?_)
  have ey3 : y3 = xs (k + 1) := by rw [fy3, show w2.toNatClampNeg = k + 1 by have := hi_cl (x := w2) (by omega); omega]
  have hszg5 := he_msz hJ km
  have hkng5 := he_m13 hJ km
  refine he_calli (va_runV (As := [.int y3]) (rest := []) ⟨hx, hb, hml, hown, hts⟩ (e_X6_hear l dC dI dA κ B g x kx y3 hLg.1) (cwV 1 hts gL_law_X6_hear rfl rfl rfl (by decide +kernel) ⟨Nat.le_of_ble_eq_true rfl, Nat.le_of_ble_eq_true rfl⟩) (he_preV (q := (RX6, TX6, 12)) [.int y3] hK hN hW hJ kx rfl rfl) rfl rfl hl.1 rfl (lv_room (Nat.le_of_ble_eq_true rfl)) dL_law_254 ⟨(by show 600000 + 0 ≤ 600000; omega), (by show 7302250 + 0 ≤ 7302250; omega)⟩) hJ (fun r4 g5 H locs hp hJ => ?_)
  obtain ⟨P9, f6⟩ := hp
  have fl9 : ∀ q : Nat, q < 4 → g5 (5 + q) 0 = g (5 + q) 0 := fun q hq => P9 (5 + q) 0 (fun h8 => by have h8 : ((5 + q) = 1 ∧ (0 = 1 ∨ 0 = 11)) ∨ ((5 + q) = 10 ∧ 0 = 1) ∨ (5 + q) = 16 ∨ (300 ≤ (5 + q) ∧ (5 + q) < 312) ∨ ((5 + q) = 3 ∧ 0 = 0) ∨ ((5 + q) = 3 ∧ 0 = 1) ∨ (340 ≤ (5 + q) ∧ (5 + q) < 353) ∨ (360 ≤ (5 + q) ∧ (5 + q) < 373) ∨ (5 ≤ (5 + q) ∧ (5 + q) < 9 ∧ 0 ≠ 0) := h8; omega)
  have hL7 : hg_L g5 := by
    refine hLg.cl hszg5 hkng5.2 (fun a b h9 => P9 a b (fun h8 => by have h8 : (a = 1 ∧ (b = 1 ∨ b = 11)) ∨ (a = 10 ∧ b = 1) ∨ a = 16 ∨ (300 ≤ a ∧ a < 312) ∨ (a = 3 ∧ b = 0) ∨ (a = 3 ∧ b = 1) ∨ (340 ≤ a ∧ a < 353) ∨ (360 ≤ a ∧ a < 373) ∨ (5 ≤ a ∧ a < 9 ∧ b ≠ 0) := h8; omega)) f6.1 ?_
    have hi9 : hr_inv (hc_tab g5) (fun q => g (5 + q) 0) := by
      rcases f6.2 with t9 | ⟨hc, con, held, b1, b2, ln⟩
      · rw [t9]; exact hLg.2.1
      · exact ln.inv hLg.2.1 ⟨hc.1, hc.2.1, hc.2.2⟩ ⟨b1, b2⟩
    exact hi9.up (fun r9 hr9 q9 => by have hr8 := hi9.1 r9 hr9; show g5 (5 + r9.1.toNat) 0 = 1; rw [fl9 _ (by omega)]; exact q9)
  refine lv_pop hx hb dL_law_257 rfl ?_
  refine lv_aload_n hx hb dL_law_258 rfl (lv_at hl 2 rfl) ?_
  refine lv_aload_n hx hb dL_law_259 rfl (lv_at hl 0 rfl) ?_
  refine lv_iload_n hx hb dL_law_260 rfl (lv_at hl 3 rfl) ?_
  refine hq_iconst hx hb dL_law_261 (by decide) (by decide) (fun z8 ez8 => ?_)
  refine hq_iadd hx hb dL_law_262 (by omega) (by omega) (fun w9 ew9 => ?_)
  refine va_sld hx hb hX hbl hbA hJ.2 (hi_in (by omega) (by omega)) dL_law_263 ?_
  refine lv_topi (fun y10 fy10 => ?_)
  have ey10 : y10 = xs (k + 1) := by rw [fy10, show w9.toNatClampNeg = k + 1 by have := hi_cl (x := w9) (by omega); omega]
  have qy10 : y3 = y10 := by rw [ey3, ey10]
  subst qy10
  have hszg12 := he_msz hJ km
  have hkng12 := he_m13 hJ km
  refine he_calli (va_runV (As := [.int y3]) (rest := []) ⟨hx, hb, hml, hown, hts⟩ (e_X7_hear l dC dI dA κ B g5 mo km y3 hL7.2.2.2) (cwV 1 hts gL_law_X7_hear rfl rfl rfl (by decide +kernel) ⟨Nat.le_of_ble_eq_true rfl, Nat.le_of_ble_eq_true rfl⟩) (he_preV (q := (RX7, TX7, 24)) [.int y3] hK hN hW hJ km rfl rfl) rfl rfl hl.1 rfl (lv_room (Nat.le_of_ble_eq_true rfl)) dL_law_264 ⟨(by show 600000 + 0 ≤ 600000; omega), (by show 7302250 + 0 ≤ 7302250; omega)⟩) hJ (fun r11 g12 H locs hp hJ => ?_)
  obtain ⟨P9, f13⟩ := hp
  have fl9 : ∀ q : Nat, g12 20 q = g5 20 q := fun q => P9 20 q (fun h8 => by have h8 : (20 = 11 ∧ (q = 1 ∨ q = 13 ∨ q = 20)) ∨ (22 ≤ 20 ∧ 20 ≤ 30) := h8; omega)
  have hL14 : hg_L g12 := by
    refine hL7.mo (fun a b h9 => P9 a b (fun h8 => by have h8 : (a = 11 ∧ (b = 1 ∨ b = 13 ∨ b = 20)) ∨ (22 ≤ a ∧ a ≤ 30) := h8; omega)) ?_ f13.2
    have hi9 : hr_inv (hm_tab g12) (fun q => g5 20 q) := by
      rcases f13.1 with t9 | ⟨hc, con, held, b1, b2, ln⟩
      · rw [t9]; exact hL7.2.2.1
      · exact ln.inv hL7.2.2.1 ⟨hc.1, hc.2.1, hc.2.2⟩ ⟨b1, b2⟩
    exact hi9.up (fun r9 hr9 q9 => by show g12 20 r9.1.toNat = 1; rw [fl9]; exact q9)
  refine lv_pop hx hb dL_law_267 rfl ?_
  refine lv_goto (tgt := 462) hx hb dL_law_268 (by decide) ?_
  exact nxt g12 _ _ ls hL14 hJ (lv_sub hl [0, 1, 2, 3] rfl)
set_option maxRecDepth 100000 in
set_option maxHeartbeats 8000000 in
theorem law_tick {p : Program} {l : Launch} {e : Env} {s : State} {m : MethodId} {below : List Frame} {meth : Method} {c : Code} {dC : Nat → ClassId} {dI : Nat → Nat → Nat} {dA : Nat → ClassId} {κ : Nat → Nat} {B b L x mo k : Nat} {xs : Nat → Int32} {v : Int32} {g : Nat → Nat → Int} {H : Heap} {locs : List Loc} {ls : Array Slot} (hL : L ≤ 2048) (hx : p.tables.exec = Jvm.exec) (hb : c.code = cL_law) (hml : c.maxLocals = 4) (hown : s.vm.findClass RL = some m.cls) (hts : ∀ w ∈ wsL_law, w.before #[Value.ref b] s = true) (hX : va_X b L xs s s.heap) (hbl : b < s.heap.size) (hbA : ¬ hp_A B b) (hK : va_K (dC, dI) vwCl (hp_ty dA) s) (hN : hp_N s) (hW : hp_W κ B) (kx : κ x = 1) (km : κ mo = 11) (hv : v.toInt = (k : Int)) (hkL : k + 4 ≤ L) (hLg : hg_L g) (hJ : he_J dC dI dA κ B g s.heap H locs) (hl : lv_has ls 4 [(0, .ref b), (1, .ref x), (2, .ref mo), (3, .int v)])
    (nxt : ∀ (g' : Nat → Nat → Int) (H : Heap) (locs : List Loc) (ls : Array Slot), hg_L g' → he_J dC dI dA κ B g' s.heap H locs → lv_has ls 4 [(0, .ref b), (1, .ref x), (2, .ref mo), (3, .int v)] → W p l e room_1 s m #[Value.ref b] below meth c H locs 600000 7302250 (lw_Z below #[Value.ref b] s) (F0 m 462 ls [])) : W p l e room_1 s m #[Value.ref b] below meth c H locs 600000 7302250 (lw_Z below #[Value.ref b] s) (F0 m 271 ls []) := by
  refine lv_aload_n hx hb dL_law_271 rfl (lv_at hl 1 rfl) ?_
  refine lv_aload_n hx hb dL_law_272 rfl (lv_at hl 0 rfl) ?_
  refine lv_iload_n hx hb dL_law_273 rfl (lv_at hl 3 rfl) ?_
  refine hq_iconst hx hb dL_law_274 (by decide) (by decide) (fun z1 ez1 => ?_)
  refine hq_iadd hx hb dL_law_275 (by omega) (by omega) (fun w2 ew2 => ?_)
  refine va_sld hx hb hX hbl hbA hJ.2 (hi_in (by omega) (by omega)) dL_law_276 ?_
  refine lv_topi (fun y3 fy3 => ?_)
  have ey3 : y3 = xs (k + 1) := by rw [fy3, show w2.toNatClampNeg = k + 1 by have := hi_cl (x := w2) (by omega); omega]
  have hszg5 := he_msz hJ km
  have hkng5 := he_m13 hJ km
  refine he_calli (va_runV (As := [.int y3]) (rest := []) ⟨hx, hb, hml, hown, hts⟩ (e_X6_tick l dC dI dA κ B g x kx y3 hLg.1 hLg.2.1) (cwV 1 hts gL_law_X6_tick rfl rfl rfl (by decide +kernel) ⟨Nat.le_of_ble_eq_true rfl, Nat.le_of_ble_eq_true rfl⟩) (he_preV (q := (RX6, TX6, 12)) [.int y3] hK hN hW hJ kx rfl rfl) rfl rfl hl.1 rfl (lv_room (Nat.le_of_ble_eq_true rfl)) dL_law_277 ⟨(by show 600000 + 0 ≤ 600000; omega), (by show 7302250 + 0 ≤ 7302250; omega)⟩) hJ (fun r4 g5 H locs hp hJ => ?_)
  obtain ⟨P9, f6⟩ := hp
  have fl9 : ∀ q : Nat, q < 4 → g5 (5 + q) 0 = g (5 + q) 0 := fun q hq => P9 (5 + q) 0 (fun h8 => by have h8 : ((5 + q) = 1 ∧ 0 = 10) ∨ (5 + q) = 4 ∨ (5 ≤ (5 + q) ∧ (5 + q) < 9 ∧ 0 ≠ 0) ∨ ((5 + q) = 10 ∧ 0 = 1) ∨ (5 + q) = 16 ∨ (300 ≤ (5 + q) ∧ (5 + q) < 312 ∧ 0 = 2) := h8; omega)
  have hL7 : hg_L g5 := by
    rcases f6 with ⟨hc, w9, t9⟩ | ⟨hc, he9⟩
    · refine hLg.cl hszg5 hkng5.2 (fun a b h9 => P9 a b (fun h8 => by have h8 : (a = 1 ∧ b = 10) ∨ a = 4 ∨ (5 ≤ a ∧ a < 9 ∧ b ≠ 0) ∨ (a = 10 ∧ b = 1) ∨ a = 16 ∨ (300 ≤ a ∧ a < 312 ∧ b = 2) := h8; omega)) w9 ?_
      rw [t9]
      exact (hLg.2.1.tks _).up (fun r9 hr9 q9 => by have hr8 := (hLg.2.1.tks _).1 r9 hr9; show g5 (5 + r9.1.toNat) 0 = 1; rw [fl9 _ (by omega)]; exact q9)
    · rw [← he9]; exact hLg
  refine lv_pop hx hb dL_law_280 rfl ?_
  refine lv_aload_n hx hb dL_law_281 rfl (lv_at hl 2 rfl) ?_
  refine lv_aload_n hx hb dL_law_282 rfl (lv_at hl 0 rfl) ?_
  refine lv_iload_n hx hb dL_law_283 rfl (lv_at hl 3 rfl) ?_
  refine hq_iconst hx hb dL_law_284 (by decide) (by decide) (fun z8 ez8 => ?_)
  refine hq_iadd hx hb dL_law_285 (by omega) (by omega) (fun w9 ew9 => ?_)
  refine va_sld hx hb hX hbl hbA hJ.2 (hi_in (by omega) (by omega)) dL_law_286 ?_
  refine lv_topi (fun y10 fy10 => ?_)
  have ey10 : y10 = xs (k + 1) := by rw [fy10, show w9.toNatClampNeg = k + 1 by have := hi_cl (x := w9) (by omega); omega]
  have qy10 : y3 = y10 := by rw [ey3, ey10]
  subst qy10
  have hszg12 := he_msz hJ km
  have hkng12 := he_m13 hJ km
  refine he_calli (va_runV (As := [.int y3]) (rest := []) ⟨hx, hb, hml, hown, hts⟩ (e_X7_tick l dC dI dA κ B g5 mo km y3 hL7.2.2.1) (cwV 1 hts gL_law_X7_tick rfl rfl rfl (by decide +kernel) ⟨Nat.le_of_ble_eq_true rfl, Nat.le_of_ble_eq_true rfl⟩) (he_preV (q := (RX7, TX7, 24)) [.int y3] hK hN hW hJ km rfl rfl) rfl rfl hl.1 rfl (lv_room (Nat.le_of_ble_eq_true rfl)) dL_law_287 ⟨(by show 600000 + 0 ≤ 600000; omega), (by show 7302250 + 0 ≤ 7302250; omega)⟩) hJ (fun r11 g12 H locs hp hJ => ?_)
  obtain ⟨P9, f13⟩ := hp
  have fl9 : ∀ q : Nat, g12 20 q = g5 20 q := fun q => P9 20 q (fun h8 => by have h8 : (20 = 11 ∧ (q = 13 ∨ q = 19 ∨ q = 22 ∨ q = 23)) ∨ (21 ≤ 20 ∧ 20 ≤ 30) := h8; omega)
  obtain ⟨f13, e9⟩ := f13
  have hL14 : hg_L g12 := by
    rcases f13 with ⟨hc, t9⟩ | ⟨hc, he9⟩
    · refine hL7.mo (fun a b h9 => P9 a b (fun h8 => by have h8 : (a = 11 ∧ (b = 13 ∨ b = 19 ∨ b = 22 ∨ b = 23)) ∨ (21 ≤ a ∧ a ≤ 30) := h8; omega)) ?_ (by rw [e9]; exact hL7.2.2.2)
      rw [t9]
      exact (hL7.2.2.1.tks _).up (fun r9 hr9 q9 => by show g12 20 r9.1.toNat = 1; rw [fl9]; exact q9)
    · rw [← he9]; exact hL7
  refine lv_pop hx hb dL_law_290 rfl ?_
  refine lv_goto (tgt := 462) hx hb dL_law_291 (by decide) ?_
  exact nxt g12 _ _ ls hL14 hJ (lv_sub hl [0, 1, 2, 3] rfl)
set_option maxRecDepth 100000 in
set_option maxHeartbeats 8000000 in
theorem law_about {p : Program} {l : Launch} {e : Env} {s : State} {m : MethodId} {below : List Frame} {meth : Method} {c : Code} {dC : Nat → ClassId} {dI : Nat → Nat → Nat} {dA : Nat → ClassId} {κ : Nat → Nat} {B b L x mo k : Nat} {xs : Nat → Int32} {v : Int32} {g : Nat → Nat → Int} {H : Heap} {locs : List Loc} {ls : Array Slot} (hL : L ≤ 2048) (hx : p.tables.exec = Jvm.exec) (hb : c.code = cL_law) (hml : c.maxLocals = 4) (hown : s.vm.findClass RL = some m.cls) (hts : ∀ w ∈ wsL_law, w.before #[Value.ref b] s = true) (hX : va_X b L xs s s.heap) (hbl : b < s.heap.size) (hbA : ¬ hp_A B b) (hK : va_K (dC, dI) vwCl (hp_ty dA) s) (hN : hp_N s) (hW : hp_W κ B) (kx : κ x = 1) (km : κ mo = 11) (hv : v.toInt = (k : Int)) (hkL : k + 4 ≤ L) (hLg : hg_L g) (hJ : he_J dC dI dA κ B g s.heap H locs) (hl : lv_has ls 4 [(0, .ref b), (1, .ref x), (2, .ref mo), (3, .int v)])
    (nxt : ∀ (g' : Nat → Nat → Int) (H : Heap) (locs : List Loc) (ls : Array Slot), hg_L g' → he_J dC dI dA κ B g' s.heap H locs → lv_has ls 4 [(0, .ref b), (1, .ref x), (2, .ref mo), (3, .int v)] → W p l e room_1 s m #[Value.ref b] below meth c H locs 600000 7302250 (lw_Z below #[Value.ref b] s) (F0 m 462 ls [])) : W p l e room_1 s m #[Value.ref b] below meth c H locs 600000 7302250 (lw_Z below #[Value.ref b] s) (F0 m 294 ls []) := by
  refine lv_aload_n hx hb dL_law_294 rfl (lv_at hl 1 rfl) ?_
  refine lv_aload_n hx hb dL_law_295 rfl (lv_at hl 0 rfl) ?_
  refine lv_iload_n hx hb dL_law_296 rfl (lv_at hl 3 rfl) ?_
  refine hq_iconst hx hb dL_law_297 (by decide) (by decide) (fun z1 ez1 => ?_)
  refine hq_iadd hx hb dL_law_298 (by omega) (by omega) (fun w2 ew2 => ?_)
  refine va_sld hx hb hX hbl hbA hJ.2 (hi_in (by omega) (by omega)) dL_law_299 ?_
  refine lv_topi (fun y3 fy3 => ?_)
  have ey3 : y3 = xs (k + 1) := by rw [fy3, show w2.toNatClampNeg = k + 1 by have := hi_cl (x := w2) (by omega); omega]
  refine lv_aload_n hx hb dL_law_300 rfl (lv_at hl 0 rfl) ?_
  refine lv_iload_n hx hb dL_law_301 rfl (lv_at hl 3 rfl) ?_
  refine hq_iconst hx hb dL_law_302 (by decide) (by decide) (fun z4 ez4 => ?_)
  refine hq_iadd hx hb dL_law_303 (by omega) (by omega) (fun w5 ew5 => ?_)
  refine va_sld hx hb hX hbl hbA hJ.2 (hi_in (by omega) (by omega)) dL_law_304 ?_
  refine lv_topi (fun y6 fy6 => ?_)
  have ey6 : y6 = xs (k + 2) := by rw [fy6, show w5.toNatClampNeg = k + 2 by have := hi_cl (x := w5) (by omega); omega]
  have hszg8 := he_msz hJ km
  have hkng8 := he_m13 hJ km
  refine he_calli (va_runV (As := [.int y3, .int y6]) (rest := []) ⟨hx, hb, hml, hown, hts⟩ (e_X6_about l dC dI dA κ B g x kx y3 y6) (cwV 2 hts gL_law_X6_about rfl rfl rfl (by decide +kernel) ⟨Nat.le_of_ble_eq_true rfl, Nat.le_of_ble_eq_true rfl⟩) (he_preV (q := (RX6, TX6, 12)) [.int y3, .int y6] hK hN hW hJ kx rfl rfl) rfl rfl hl.1 rfl (lv_room (Nat.le_of_ble_eq_true rfl)) dL_law_305 ⟨(by show 600000 + 0 ≤ 600000; omega), (by show 7302250 + 0 ≤ 7302250; omega)⟩) hJ (fun r7 g8 H locs hp hJ => ?_)
  subst hp
  refine lv_pop hx hb dL_law_308 rfl ?_
  refine lv_aload_n hx hb dL_law_309 rfl (lv_at hl 2 rfl) ?_
  refine lv_aload_n hx hb dL_law_310 rfl (lv_at hl 0 rfl) ?_
  refine lv_iload_n hx hb dL_law_311 rfl (lv_at hl 3 rfl) ?_
  refine hq_iconst hx hb dL_law_312 (by decide) (by decide) (fun z11 ez11 => ?_)
  refine hq_iadd hx hb dL_law_313 (by omega) (by omega) (fun w12 ew12 => ?_)
  refine va_sld hx hb hX hbl hbA hJ.2 (hi_in (by omega) (by omega)) dL_law_314 ?_
  refine lv_topi (fun y13 fy13 => ?_)
  have ey13 : y13 = xs (k + 1) := by rw [fy13, show w12.toNatClampNeg = k + 1 by have := hi_cl (x := w12) (by omega); omega]
  refine lv_aload_n hx hb dL_law_315 rfl (lv_at hl 0 rfl) ?_
  refine lv_iload_n hx hb dL_law_316 rfl (lv_at hl 3 rfl) ?_
  refine hq_iconst hx hb dL_law_317 (by decide) (by decide) (fun z14 ez14 => ?_)
  refine hq_iadd hx hb dL_law_318 (by omega) (by omega) (fun w15 ew15 => ?_)
  refine va_sld hx hb hX hbl hbA hJ.2 (hi_in (by omega) (by omega)) dL_law_319 ?_
  refine lv_topi (fun y16 fy16 => ?_)
  have ey16 : y16 = xs (k + 2) := by rw [fy16, show w15.toNatClampNeg = k + 2 by have := hi_cl (x := w15) (by omega); omega]
  have qy13 : y3 = y13 := by rw [ey3, ey13]
  subst qy13
  have qy16 : y6 = y16 := by rw [ey6, ey16]
  subst qy16
  have hszg18 := he_msz hJ km
  have hkng18 := he_m13 hJ km
  refine he_calli (va_runV (As := [.int y3, .int y6]) (rest := []) ⟨hx, hb, hml, hown, hts⟩ (e_X7_about l dC dI dA κ B g mo km y3 y6) (cwV 2 hts gL_law_X7_about rfl rfl rfl (by decide +kernel) ⟨Nat.le_of_ble_eq_true rfl, Nat.le_of_ble_eq_true rfl⟩) (he_preV (q := (RX7, TX7, 24)) [.int y3, .int y6] hK hN hW hJ km rfl rfl) rfl rfl hl.1 rfl (lv_room (Nat.le_of_ble_eq_true rfl)) dL_law_320 ⟨(by show 600000 + 0 ≤ 600000; omega), (by show 7302250 + 0 ≤ 7302250; omega)⟩) hJ (fun r17 g18 H locs hp hJ => ?_)
  subst hp
  refine lv_pop hx hb dL_law_323 rfl ?_
  refine lv_goto (tgt := 462) hx hb dL_law_324 (by decide) ?_
  exact nxt g _ _ ls hLg hJ (lv_sub hl [0, 1, 2, 3] rfl)
set_option maxRecDepth 100000 in
set_option maxHeartbeats 8000000 in
theorem law_count {p : Program} {l : Launch} {e : Env} {s : State} {m : MethodId} {below : List Frame} {meth : Method} {c : Code} {dC : Nat → ClassId} {dI : Nat → Nat → Nat} {dA : Nat → ClassId} {κ : Nat → Nat} {B b L x mo k : Nat} {xs : Nat → Int32} {v : Int32} {g : Nat → Nat → Int} {H : Heap} {locs : List Loc} {ls : Array Slot} (hL : L ≤ 2048) (hx : p.tables.exec = Jvm.exec) (hb : c.code = cL_law) (hml : c.maxLocals = 4) (hown : s.vm.findClass RL = some m.cls) (hts : ∀ w ∈ wsL_law, w.before #[Value.ref b] s = true) (hX : va_X b L xs s s.heap) (hbl : b < s.heap.size) (hbA : ¬ hp_A B b) (hK : va_K (dC, dI) vwCl (hp_ty dA) s) (hN : hp_N s) (hW : hp_W κ B) (kx : κ x = 1) (km : κ mo = 11) (hv : v.toInt = (k : Int)) (hkL : k + 4 ≤ L) (hLg : hg_L g) (hJ : he_J dC dI dA κ B g s.heap H locs) (hl : lv_has ls 4 [(0, .ref b), (1, .ref x), (2, .ref mo), (3, .int v)])
    (nxt : ∀ (g' : Nat → Nat → Int) (H : Heap) (locs : List Loc) (ls : Array Slot), hg_L g' → he_J dC dI dA κ B g' s.heap H locs → lv_has ls 4 [(0, .ref b), (1, .ref x), (2, .ref mo), (3, .int v)] → W p l e room_1 s m #[Value.ref b] below meth c H locs 600000 7302250 (lw_Z below #[Value.ref b] s) (F0 m 462 ls [])) : W p l e room_1 s m #[Value.ref b] below meth c H locs 600000 7302250 (lw_Z below #[Value.ref b] s) (F0 m 327 ls []) := by
  refine lv_aload_n hx hb dL_law_327 rfl (lv_at hl 1 rfl) ?_
  refine lv_aload_n hx hb dL_law_328 rfl (lv_at hl 0 rfl) ?_
  refine lv_iload_n hx hb dL_law_329 rfl (lv_at hl 3 rfl) ?_
  refine hq_iconst hx hb dL_law_330 (by decide) (by decide) (fun z1 ez1 => ?_)
  refine hq_iadd hx hb dL_law_331 (by omega) (by omega) (fun w2 ew2 => ?_)
  refine va_sld hx hb hX hbl hbA hJ.2 (hi_in (by omega) (by omega)) dL_law_332 ?_
  refine lv_topi (fun y3 fy3 => ?_)
  have ey3 : y3 = xs (k + 1) := by rw [fy3, show w2.toNatClampNeg = k + 1 by have := hi_cl (x := w2) (by omega); omega]
  have hszg5 := he_msz hJ km
  have hkng5 := he_m13 hJ km
  refine he_calli (va_runV (As := [.int y3]) (rest := []) ⟨hx, hb, hml, hown, hts⟩ (e_X6_count l dC dI dA κ B g x kx y3) (cwV 1 hts gL_law_X6_count rfl rfl rfl (by decide +kernel) ⟨Nat.le_of_ble_eq_true rfl, Nat.le_of_ble_eq_true rfl⟩) (he_preV (q := (RX6, TX6, 12)) [.int y3] hK hN hW hJ kx rfl rfl) rfl rfl hl.1 rfl (lv_room (Nat.le_of_ble_eq_true rfl)) dL_law_333 ⟨(by show 600000 + 0 ≤ 600000; omega), (by show 7302250 + 0 ≤ 7302250; omega)⟩) hJ (fun r4 g5 H locs hp hJ => ?_)
  subst hp
  refine lv_pop hx hb dL_law_336 rfl ?_
  refine lv_aload_n hx hb dL_law_337 rfl (lv_at hl 2 rfl) ?_
  refine lv_aload_n hx hb dL_law_338 rfl (lv_at hl 0 rfl) ?_
  refine lv_iload_n hx hb dL_law_339 rfl (lv_at hl 3 rfl) ?_
  refine hq_iconst hx hb dL_law_340 (by decide) (by decide) (fun z8 ez8 => ?_)
  refine hq_iadd hx hb dL_law_341 (by omega) (by omega) (fun w9 ew9 => ?_)
  refine va_sld hx hb hX hbl hbA hJ.2 (hi_in (by omega) (by omega)) dL_law_342 ?_
  refine lv_topi (fun y10 fy10 => ?_)
  have ey10 : y10 = xs (k + 1) := by rw [fy10, show w9.toNatClampNeg = k + 1 by have := hi_cl (x := w9) (by omega); omega]
  have qy10 : y3 = y10 := by rw [ey3, ey10]
  subst qy10
  have hszg12 := he_msz hJ km
  have hkng12 := he_m13 hJ km
  refine he_calli (va_runV (As := [.int y3]) (rest := []) ⟨hx, hb, hml, hown, hts⟩ (e_X7_count l dC dI dA κ B g mo km y3) (cwV 1 hts gL_law_X7_count rfl rfl rfl (by decide +kernel) ⟨Nat.le_of_ble_eq_true rfl, Nat.le_of_ble_eq_true rfl⟩) (he_preV (q := (RX7, TX7, 24)) [.int y3] hK hN hW hJ km rfl rfl) rfl rfl hl.1 rfl (lv_room (Nat.le_of_ble_eq_true rfl)) dL_law_343 ⟨(by show 600000 + 0 ≤ 600000; omega), (by show 7302250 + 0 ≤ 7302250; omega)⟩) hJ (fun r11 g12 H locs hp hJ => ?_)
  subst hp
  refine lv_pop hx hb dL_law_346 rfl ?_
  refine lv_goto (tgt := 462) hx hb dL_law_347 (by decide) ?_
  exact nxt g _ _ ls hLg hJ (lv_sub hl [0, 1, 2, 3] rfl)
set_option maxRecDepth 100000 in
set_option maxHeartbeats 8000000 in
theorem law_sent {p : Program} {l : Launch} {e : Env} {s : State} {m : MethodId} {below : List Frame} {meth : Method} {c : Code} {dC : Nat → ClassId} {dI : Nat → Nat → Nat} {dA : Nat → ClassId} {κ : Nat → Nat} {B b L x mo k : Nat} {xs : Nat → Int32} {v : Int32} {g : Nat → Nat → Int} {H : Heap} {locs : List Loc} {ls : Array Slot} (hL : L ≤ 2048) (hx : p.tables.exec = Jvm.exec) (hb : c.code = cL_law) (hml : c.maxLocals = 4) (hown : s.vm.findClass RL = some m.cls) (hts : ∀ w ∈ wsL_law, w.before #[Value.ref b] s = true) (hX : va_X b L xs s s.heap) (hbl : b < s.heap.size) (hbA : ¬ hp_A B b) (hK : va_K (dC, dI) vwCl (hp_ty dA) s) (hN : hp_N s) (hW : hp_W κ B) (kx : κ x = 1) (km : κ mo = 11) (hv : v.toInt = (k : Int)) (hkL : k + 4 ≤ L) (hLg : hg_L g) (hJ : he_J dC dI dA κ B g s.heap H locs) (hl : lv_has ls 4 [(0, .ref b), (1, .ref x), (2, .ref mo), (3, .int v)])
    (nxt : ∀ (g' : Nat → Nat → Int) (H : Heap) (locs : List Loc) (ls : Array Slot), hg_L g' → he_J dC dI dA κ B g' s.heap H locs → lv_has ls 4 [(0, .ref b), (1, .ref x), (2, .ref mo), (3, .int v)] → W p l e room_1 s m #[Value.ref b] below meth c H locs 600000 7302250 (lw_Z below #[Value.ref b] s) (F0 m 462 ls [])) : W p l e room_1 s m #[Value.ref b] below meth c H locs 600000 7302250 (lw_Z below #[Value.ref b] s) (F0 m 350 ls []) := by
  refine lv_aload_n hx hb dL_law_350 rfl (lv_at hl 1 rfl) ?_
  refine lv_aload_n hx hb dL_law_351 rfl (lv_at hl 0 rfl) ?_
  refine lv_iload_n hx hb dL_law_352 rfl (lv_at hl 3 rfl) ?_
  refine hq_iconst hx hb dL_law_353 (by decide) (by decide) (fun z1 ez1 => ?_)
  refine hq_iadd hx hb dL_law_354 (by omega) (by omega) (fun w2 ew2 => ?_)
  refine va_sld hx hb hX hbl hbA hJ.2 (hi_in (by omega) (by omega)) dL_law_355 ?_
  refine lv_topi (fun y3 fy3 => ?_)
  have ey3 : y3 = xs (k + 1) := by rw [fy3, show w2.toNatClampNeg = k + 1 by have := hi_cl (x := w2) (by omega); omega]
  have hszg5 := he_msz hJ km
  have hkng5 := he_m13 hJ km
  refine he_calli (va_runV (As := [.int y3]) (rest := []) ⟨hx, hb, hml, hown, hts⟩ (e_X6_sent l dC dI dA κ B g x kx y3) (cwV 1 hts gL_law_X6_sent rfl rfl rfl (by decide +kernel) ⟨Nat.le_of_ble_eq_true rfl, Nat.le_of_ble_eq_true rfl⟩) (he_preV (q := (RX6, TX6, 12)) [.int y3] hK hN hW hJ kx rfl rfl) rfl rfl hl.1 rfl (lv_room (Nat.le_of_ble_eq_true rfl)) dL_law_356 ⟨(by show 600000 + 0 ≤ 600000; omega), (by show 7302250 + 0 ≤ 7302250; omega)⟩) hJ (fun r4 g5 H locs hp hJ => ?_)
  subst hp
  refine lv_pop hx hb dL_law_359 rfl ?_
  refine lv_aload_n hx hb dL_law_360 rfl (lv_at hl 2 rfl) ?_
  refine lv_aload_n hx hb dL_law_361 rfl (lv_at hl 0 rfl) ?_
  refine lv_iload_n hx hb dL_law_362 rfl (lv_at hl 3 rfl) ?_
  refine hq_iconst hx hb dL_law_363 (by decide) (by decide) (fun z8 ez8 => ?_)
  refine hq_iadd hx hb dL_law_364 (by omega) (by omega) (fun w9 ew9 => ?_)
  refine va_sld hx hb hX hbl hbA hJ.2 (hi_in (by omega) (by omega)) dL_law_365 ?_
  refine lv_topi (fun y10 fy10 => ?_)
  have ey10 : y10 = xs (k + 1) := by rw [fy10, show w9.toNatClampNeg = k + 1 by have := hi_cl (x := w9) (by omega); omega]
  have qy10 : y3 = y10 := by rw [ey3, ey10]
  subst qy10
  have hszg12 := he_msz hJ km
  have hkng12 := he_m13 hJ km
  refine he_calli (va_runV (As := [.int y3]) (rest := []) ⟨hx, hb, hml, hown, hts⟩ (e_X7_sent l dC dI dA κ B g mo km y3) (cwV 1 hts gL_law_X7_sent rfl rfl rfl (by decide +kernel) ⟨Nat.le_of_ble_eq_true rfl, Nat.le_of_ble_eq_true rfl⟩) (he_preV (q := (RX7, TX7, 24)) [.int y3] hK hN hW hJ km rfl rfl) rfl rfl hl.1 rfl (lv_room (Nat.le_of_ble_eq_true rfl)) dL_law_366 ⟨(by show 600000 + 0 ≤ 600000; omega), (by show 7302250 + 0 ≤ 7302250; omega)⟩) hJ (fun r11 g12 H locs hp hJ => ?_)
  subst hp
  refine lv_pop hx hb dL_law_369 rfl ?_
  refine lv_goto (tgt := 462) hx hb dL_law_370 (by decide) ?_
  exact nxt g _ _ ls hLg hJ (lv_sub hl [0, 1, 2, 3] rfl)
set_option maxRecDepth 100000 in
set_option maxHeartbeats 8000000 in
theorem law_neighbor {p : Program} {l : Launch} {e : Env} {s : State} {m : MethodId} {below : List Frame} {meth : Method} {c : Code} {dC : Nat → ClassId} {dI : Nat → Nat → Nat} {dA : Nat → ClassId} {κ : Nat → Nat} {B b L x mo k : Nat} {xs : Nat → Int32} {v : Int32} {g : Nat → Nat → Int} {H : Heap} {locs : List Loc} {ls : Array Slot} (hL : L ≤ 2048) (hx : p.tables.exec = Jvm.exec) (hb : c.code = cL_law) (hml : c.maxLocals = 4) (hown : s.vm.findClass RL = some m.cls) (hts : ∀ w ∈ wsL_law, w.before #[Value.ref b] s = true) (hX : va_X b L xs s s.heap) (hbl : b < s.heap.size) (hbA : ¬ hp_A B b) (hK : va_K (dC, dI) vwCl (hp_ty dA) s) (hN : hp_N s) (hW : hp_W κ B) (kx : κ x = 1) (km : κ mo = 11) (hv : v.toInt = (k : Int)) (hkL : k + 4 ≤ L) (hLg : hg_L g) (hJ : he_J dC dI dA κ B g s.heap H locs) (hl : lv_has ls 4 [(0, .ref b), (1, .ref x), (2, .ref mo), (3, .int v)])
    (nxt : ∀ (g' : Nat → Nat → Int) (H : Heap) (locs : List Loc) (ls : Array Slot), hg_L g' → he_J dC dI dA κ B g' s.heap H locs → lv_has ls 4 [(0, .ref b), (1, .ref x), (2, .ref mo), (3, .int v)] → W p l e room_1 s m #[Value.ref b] below meth c H locs 600000 7302250 (lw_Z below #[Value.ref b] s) (F0 m 462 ls [])) : W p l e room_1 s m #[Value.ref b] below meth c H locs 600000 7302250 (lw_Z below #[Value.ref b] s) (F0 m 373 ls []) := by
  refine lv_aload_n hx hb dL_law_373 rfl (lv_at hl 1 rfl) ?_
  refine lv_aload_n hx hb dL_law_374 rfl (lv_at hl 0 rfl) ?_
  refine lv_iload_n hx hb dL_law_375 rfl (lv_at hl 3 rfl) ?_
  refine hq_iconst hx hb dL_law_376 (by decide) (by decide) (fun z1 ez1 => ?_)
  refine hq_iadd hx hb dL_law_377 (by omega) (by omega) (fun w2 ew2 => ?_)
  refine va_sld hx hb hX hbl hbA hJ.2 (hi_in (by omega) (by omega)) dL_law_378 ?_
  refine lv_topi (fun y3 fy3 => ?_)
  have ey3 : y3 = xs (k + 1) := by rw [fy3, show w2.toNatClampNeg = k + 1 by have := hi_cl (x := w2) (by omega); omega]
  refine lv_aload_n hx hb dL_law_379 rfl (lv_at hl 0 rfl) ?_
  refine lv_iload_n hx hb dL_law_380 rfl (lv_at hl 3 rfl) ?_
  refine hq_iconst hx hb dL_law_381 (by decide) (by decide) (fun z4 ez4 => ?_)
  refine hq_iadd hx hb dL_law_382 (by omega) (by omega) (fun w5 ew5 => ?_)
  refine va_sld hx hb hX hbl hbA hJ.2 (hi_in (by omega) (by omega)) dL_law_383 ?_
  refine lv_topi (fun y6 fy6 => ?_)
  have ey6 : y6 = xs (k + 2) := by rw [fy6, show w5.toNatClampNeg = k + 2 by have := hi_cl (x := w5) (by omega); omega]
  have hszg8 := he_msz hJ km
  have hkng8 := he_m13 hJ km
  refine he_calli (va_runV (As := [.int y3, .int y6]) (rest := []) ⟨hx, hb, hml, hown, hts⟩ (e_X6_neighbor l dC dI dA κ B g x kx y3 y6) (cwV 2 hts gL_law_X6_neighbor rfl rfl rfl (by decide +kernel) ⟨Nat.le_of_ble_eq_true rfl, Nat.le_of_ble_eq_true rfl⟩) (he_preV (q := (RX6, TX6, 12)) [.int y3, .int y6] hK hN hW hJ kx rfl rfl) rfl rfl hl.1 rfl (lv_room (Nat.le_of_ble_eq_true rfl)) dL_law_384 ⟨(by show 600000 + 0 ≤ 600000; omega), (by show 7302250 + 0 ≤ 7302250; omega)⟩) hJ (fun r7 g8 H locs hp hJ => ?_)
  subst hp
  refine lv_pop hx hb dL_law_387 rfl ?_
  refine lv_aload_n hx hb dL_law_388 rfl (lv_at hl 2 rfl) ?_
  refine lv_aload_n hx hb dL_law_389 rfl (lv_at hl 0 rfl) ?_
  refine lv_iload_n hx hb dL_law_390 rfl (lv_at hl 3 rfl) ?_
  refine hq_iconst hx hb dL_law_391 (by decide) (by decide) (fun z11 ez11 => ?_)
  refine hq_iadd hx hb dL_law_392 (by omega) (by omega) (fun w12 ew12 => ?_)
  refine va_sld hx hb hX hbl hbA hJ.2 (hi_in (by omega) (by omega)) dL_law_393 ?_
  refine lv_topi (fun y13 fy13 => ?_)
  have ey13 : y13 = xs (k + 1) := by rw [fy13, show w12.toNatClampNeg = k + 1 by have := hi_cl (x := w12) (by omega); omega]
  refine lv_aload_n hx hb dL_law_394 rfl (lv_at hl 0 rfl) ?_
  refine lv_iload_n hx hb dL_law_395 rfl (lv_at hl 3 rfl) ?_
  refine hq_iconst hx hb dL_law_396 (by decide) (by decide) (fun z14 ez14 => ?_)
  refine hq_iadd hx hb dL_law_397 (by omega) (by omega) (fun w15 ew15 => ?_)
  refine va_sld hx hb hX hbl hbA hJ.2 (hi_in (by omega) (by omega)) dL_law_398 ?_
  refine lv_topi (fun y16 fy16 => ?_)
  have ey16 : y16 = xs (k + 2) := by rw [fy16, show w15.toNatClampNeg = k + 2 by have := hi_cl (x := w15) (by omega); omega]
  have qy13 : y3 = y13 := by rw [ey3, ey13]
  subst qy13
  have qy16 : y6 = y16 := by rw [ey6, ey16]
  subst qy16
  have hszg18 := he_msz hJ km
  have hkng18 := he_m13 hJ km
  refine he_calli (va_runV (As := [.int y3, .int y6]) (rest := []) ⟨hx, hb, hml, hown, hts⟩ (e_X7_neighbor l dC dI dA κ B g mo km y3 y6) (cwV 2 hts gL_law_X7_neighbor rfl rfl rfl (by decide +kernel) ⟨Nat.le_of_ble_eq_true rfl, Nat.le_of_ble_eq_true rfl⟩) (he_preV (q := (RX7, TX7, 24)) [.int y3, .int y6] hK hN hW hJ km rfl rfl) rfl rfl hl.1 rfl (lv_room (Nat.le_of_ble_eq_true rfl)) dL_law_399 ⟨(by show 600000 + 0 ≤ 600000; omega), (by show 7302250 + 0 ≤ 7302250; omega)⟩) hJ (fun r17 g18 H locs hp hJ => ?_)
  subst hp
  refine lv_pop hx hb dL_law_402 rfl ?_
  refine lv_goto (tgt := 462) hx hb dL_law_403 (by decide) ?_
  exact nxt g _ _ ls hLg hJ (lv_sub hl [0, 1, 2, 3] rfl)
set_option maxRecDepth 100000 in
set_option maxHeartbeats 8000000 in
theorem law_content {p : Program} {l : Launch} {e : Env} {s : State} {m : MethodId} {below : List Frame} {meth : Method} {c : Code} {dC : Nat → ClassId} {dI : Nat → Nat → Nat} {dA : Nat → ClassId} {κ : Nat → Nat} {B b L x mo k : Nat} {xs : Nat → Int32} {v : Int32} {g : Nat → Nat → Int} {H : Heap} {locs : List Loc} {ls : Array Slot} (hL : L ≤ 2048) (hx : p.tables.exec = Jvm.exec) (hb : c.code = cL_law) (hml : c.maxLocals = 4) (hown : s.vm.findClass RL = some m.cls) (hts : ∀ w ∈ wsL_law, w.before #[Value.ref b] s = true) (hX : va_X b L xs s s.heap) (hbl : b < s.heap.size) (hbA : ¬ hp_A B b) (hK : va_K (dC, dI) vwCl (hp_ty dA) s) (hN : hp_N s) (hW : hp_W κ B) (kx : κ x = 1) (km : κ mo = 11) (hv : v.toInt = (k : Int)) (hkL : k + 4 ≤ L) (hLg : hg_L g) (hJ : he_J dC dI dA κ B g s.heap H locs) (hl : lv_has ls 4 [(0, .ref b), (1, .ref x), (2, .ref mo), (3, .int v)])
    (nxt : ∀ (g' : Nat → Nat → Int) (H : Heap) (locs : List Loc) (ls : Array Slot), hg_L g' → he_J dC dI dA κ B g' s.heap H locs → lv_has ls 4 [(0, .ref b), (1, .ref x), (2, .ref mo), (3, .int v)] → W p l e room_1 s m #[Value.ref b] below meth c H locs 600000 7302250 (lw_Z below #[Value.ref b] s) (F0 m 462 ls [])) : W p l e room_1 s m #[Value.ref b] below meth c H locs 600000 7302250 (lw_Z below #[Value.ref b] s) (F0 m 406 ls []) := by
  refine lv_aload_n hx hb dL_law_406 rfl (lv_at hl 1 rfl) ?_
  refine lv_aload_n hx hb dL_law_407 rfl (lv_at hl 0 rfl) ?_
  refine lv_iload_n hx hb dL_law_408 rfl (lv_at hl 3 rfl) ?_
  refine hq_iconst hx hb dL_law_409 (by decide) (by decide) (fun z1 ez1 => ?_)
  refine hq_iadd hx hb dL_law_410 (by omega) (by omega) (fun w2 ew2 => ?_)
  refine va_sld hx hb hX hbl hbA hJ.2 (hi_in (by omega) (by omega)) dL_law_411 ?_
  refine lv_topi (fun y3 fy3 => ?_)
  have ey3 : y3 = xs (k + 1) := by rw [fy3, show w2.toNatClampNeg = k + 1 by have := hi_cl (x := w2) (by omega); omega]
  refine lv_aload_n hx hb dL_law_412 rfl (lv_at hl 0 rfl) ?_
  refine lv_iload_n hx hb dL_law_413 rfl (lv_at hl 3 rfl) ?_
  refine hq_iconst hx hb dL_law_414 (by decide) (by decide) (fun z4 ez4 => ?_)
  refine hq_iadd hx hb dL_law_415 (by omega) (by omega) (fun w5 ew5 => ?_)
  refine va_sld hx hb hX hbl hbA hJ.2 (hi_in (by omega) (by omega)) dL_law_416 ?_
  refine lv_topi (fun y6 fy6 => ?_)
  have ey6 : y6 = xs (k + 2) := by rw [fy6, show w5.toNatClampNeg = k + 2 by have := hi_cl (x := w5) (by omega); omega]
  refine lv_aload_n hx hb dL_law_417 rfl (lv_at hl 0 rfl) ?_
  refine lv_iload_n hx hb dL_law_418 rfl (lv_at hl 3 rfl) ?_
  refine hq_iconst hx hb dL_law_419 (by decide) (by decide) (fun z7 ez7 => ?_)
  refine hq_iadd hx hb dL_law_420 (by omega) (by omega) (fun w8 ew8 => ?_)
  refine va_sld hx hb hX hbl hbA hJ.2 (hi_in (by omega) (by omega)) dL_law_421 ?_
  refine lv_topi (fun y9 fy9 => ?_)
  have ey9 : y9 = xs (k + 3) := by rw [fy9, show w8.toNatClampNeg = k + 3 by have := hi_cl (x := w8) (by omega); omega]
  have hszg11 := he_msz hJ km
  have hkng11 := he_m13 hJ km
  refine he_calli (va_runV (As := [.int y3, .int y6, .int y9]) (rest := []) ⟨hx, hb, hml, hown, hts⟩ (e_X6_content l dC dI dA κ B g x kx y3 y6 y9) (cwV 3 hts gL_law_X6_content rfl rfl rfl (by decide +kernel) ⟨Nat.le_of_ble_eq_true rfl, Nat.le_of_ble_eq_true rfl⟩) (he_preV (q := (RX6, TX6, 12)) [.int y3, .int y6, .int y9] hK hN hW hJ kx rfl rfl) rfl rfl hl.1 rfl (lv_room (Nat.le_of_ble_eq_true rfl)) dL_law_422 ⟨(by show 600000 + 0 ≤ 600000; omega), (by show 7302250 + 0 ≤ 7302250; omega)⟩) hJ (fun r10 g11 H locs hp hJ => ?_)
  subst hp
  refine lv_pop hx hb dL_law_425 rfl ?_
  refine lv_aload_n hx hb dL_law_426 rfl (lv_at hl 2 rfl) ?_
  refine lv_aload_n hx hb dL_law_427 rfl (lv_at hl 0 rfl) ?_
  refine lv_iload_n hx hb dL_law_428 rfl (lv_at hl 3 rfl) ?_
  refine hq_iconst hx hb dL_law_429 (by decide) (by decide) (fun z14 ez14 => ?_)
  refine hq_iadd hx hb dL_law_430 (by omega) (by omega) (fun w15 ew15 => ?_)
  refine va_sld hx hb hX hbl hbA hJ.2 (hi_in (by omega) (by omega)) dL_law_431 ?_
  refine lv_topi (fun y16 fy16 => ?_)
  have ey16 : y16 = xs (k + 1) := by rw [fy16, show w15.toNatClampNeg = k + 1 by have := hi_cl (x := w15) (by omega); omega]
  refine lv_aload_n hx hb dL_law_432 rfl (lv_at hl 0 rfl) ?_
  refine lv_iload_n hx hb dL_law_433 rfl (lv_at hl 3 rfl) ?_
  refine hq_iconst hx hb dL_law_434 (by decide) (by decide) (fun z17 ez17 => ?_)
  refine hq_iadd hx hb dL_law_435 (by omega) (by omega) (fun w18 ew18 => ?_)
  refine va_sld hx hb hX hbl hbA hJ.2 (hi_in (by omega) (by omega)) dL_law_436 ?_
  refine lv_topi (fun y19 fy19 => ?_)
  have ey19 : y19 = xs (k + 2) := by rw [fy19, show w18.toNatClampNeg = k + 2 by have := hi_cl (x := w18) (by omega); omega]
  refine lv_aload_n hx hb dL_law_437 rfl (lv_at hl 0 rfl) ?_
  refine lv_iload_n hx hb dL_law_438 rfl (lv_at hl 3 rfl) ?_
  refine hq_iconst hx hb dL_law_439 (by decide) (by decide) (fun z20 ez20 => ?_)
  refine hq_iadd hx hb dL_law_440 (by omega) (by omega) (fun w21 ew21 => ?_)
  refine va_sld hx hb hX hbl hbA hJ.2 (hi_in (by omega) (by omega)) dL_law_441 ?_
  refine lv_topi (fun y22 fy22 => ?_)
  have ey22 : y22 = xs (k + 3) := by rw [fy22, show w21.toNatClampNeg = k + 3 by have := hi_cl (x := w21) (by omega); omega]
  have qy16 : y3 = y16 := by rw [ey3, ey16]
  subst qy16
  have qy19 : y6 = y19 := by rw [ey6, ey19]
  subst qy19
  have qy22 : y9 = y22 := by rw [ey9, ey22]
  subst qy22
  have hszg24 := he_msz hJ km
  have hkng24 := he_m13 hJ km
  refine he_calli (va_runV (As := [.int y3, .int y6, .int y9]) (rest := []) ⟨hx, hb, hml, hown, hts⟩ (e_X7_content l dC dI dA κ B g mo km y3 y6 y9) (cwV 3 hts gL_law_X7_content rfl rfl rfl (by decide +kernel) ⟨Nat.le_of_ble_eq_true rfl, Nat.le_of_ble_eq_true rfl⟩) (he_preV (q := (RX7, TX7, 24)) [.int y3, .int y6, .int y9] hK hN hW hJ km rfl rfl) rfl rfl hl.1 rfl (lv_room (Nat.le_of_ble_eq_true rfl)) dL_law_442 ⟨(by show 600000 + 0 ≤ 600000; omega), (by show 7302250 + 0 ≤ 7302250; omega)⟩) hJ (fun r23 g24 H locs hp hJ => ?_)
  subst hp
  refine lv_pop hx hb dL_law_445 rfl ?_
  refine lv_goto (tgt := 462) hx hb dL_law_446 (by decide) ?_
  exact nxt g _ _ ls hLg hJ (lv_sub hl [0, 1, 2, 3] rfl)
set_option maxRecDepth 100000 in
set_option maxHeartbeats 8000000 in
theorem law_check {p : Program} {l : Launch} {e : Env} {s : State} {m : MethodId} {below : List Frame} {meth : Method} {c : Code} {dC : Nat → ClassId} {dI : Nat → Nat → Nat} {dA : Nat → ClassId} {κ : Nat → Nat} {B b L x mo k : Nat} {xs : Nat → Int32} {v : Int32} {g : Nat → Nat → Int} {H : Heap} {locs : List Loc} {ls : Array Slot} (hL : L ≤ 2048) (hx : p.tables.exec = Jvm.exec) (hb : c.code = cL_law) (hml : c.maxLocals = 4) (hown : s.vm.findClass RL = some m.cls) (hts : ∀ w ∈ wsL_law, w.before #[Value.ref b] s = true) (hX : va_X b L xs s s.heap) (hbl : b < s.heap.size) (hbA : ¬ hp_A B b) (hK : va_K (dC, dI) vwCl (hp_ty dA) s) (hN : hp_N s) (hW : hp_W κ B) (kx : κ x = 1) (km : κ mo = 11) (hv : v.toInt = (k : Int)) (hkL : k + 4 ≤ L) (hLg : hg_L g) (hJ : he_J dC dI dA κ B g s.heap H locs) (hl : lv_has ls 4 [(0, .ref b), (1, .ref x), (2, .ref mo), (3, .int v)])
    (nxt : ∀ (g' : Nat → Nat → Int) (H : Heap) (locs : List Loc) (ls : Array Slot), hg_L g' → he_J dC dI dA κ B g' s.heap H locs → lv_has ls 4 [(0, .ref b), (1, .ref x), (2, .ref mo), (3, .int v)] → W p l e room_1 s m #[Value.ref b] below meth c H locs 600000 7302250 (lw_Z below #[Value.ref b] s) (F0 m 462 ls [])) : W p l e room_1 s m #[Value.ref b] below meth c H locs 600000 7302250 (lw_Z below #[Value.ref b] s) (F0 m 449 ls []) := by
  refine lv_aload_n hx hb dL_law_449 rfl (lv_at hl 1 rfl) ?_
  have hszg2 := he_msz hJ km
  have hkng2 := he_m13 hJ km
  refine he_calli (va_runV (As := []) (rest := []) ⟨hx, hb, hml, hown, hts⟩ (e_X6_check l dC dI dA κ B g x kx  hLg.1 hLg.2.1) (cwV 0 hts gL_law_X6_check rfl rfl rfl (by decide +kernel) ⟨Nat.le_of_ble_eq_true rfl, Nat.le_of_ble_eq_true rfl⟩) (he_preV (q := (RX6, TX6, 12)) [] hK hN hW hJ kx rfl rfl) rfl rfl hl.1 rfl (lv_room (Nat.le_of_ble_eq_true rfl)) dL_law_450 ⟨(by show 600000 + 0 ≤ 600000; omega), (by show 7302250 + 0 ≤ 7302250; omega)⟩) hJ (fun r1 g2 H locs hp hJ => ?_)
  obtain ⟨hq9, f3⟩ := hp
  subst hq9
  refine lv_aload_n hx hb dL_law_453 rfl (lv_at hl 2 rfl) ?_
  have hszg6 := he_msz hJ km
  have hkng6 := he_m13 hJ km
  refine he_calli (va_runV (As := []) (rest := [.int r1]) ⟨hx, hb, hml, hown, hts⟩ (e_X7_check l dC dI dA κ B g mo km  hLg.2.2.1) (cwV 0 hts gL_law_X7_check rfl rfl rfl (by decide +kernel) ⟨Nat.le_of_ble_eq_true rfl, Nat.le_of_ble_eq_true rfl⟩) (he_preV (q := (RX7, TX7, 24)) [] hK hN hW hJ km rfl rfl) rfl rfl hl.1 rfl (lv_room (Nat.le_of_ble_eq_true rfl)) dL_law_454 ⟨(by show 600000 + 0 ≤ 600000; omega), (by show 7302250 + 0 ≤ 7302250; omega)⟩) hJ (fun r5 g6 H locs hp hJ => ?_)
  obtain ⟨hq9, f7⟩ := hp
  subst hq9
  refine hq_icmp_eq (tgt := 462) hx hb dL_law_457 (by decide) (fun c9 => ?_) (fun c9 => ?_)
  · exact nxt g _ _ ls hLg hJ (lv_sub hl [0, 1, 2, 3] rfl)
  · exfalso; omega
