set_option maxRecDepth 100000 in
set_option maxHeartbeats 8000000 in
theorem law_type {p : Program} {l : Launch} {e : Env} {s : State} {m : MethodId} {below : List Frame} {meth : Method} {c : Code} {dC : Nat → ClassId} {dI : Nat → Nat → Nat} {dA : Nat → ClassId} {κ : Nat → Nat} {B b L x mo k : Nat} {xs : Nat → Int32} {v : Int32} {g : Nat → Nat → Int} {H : Heap} {locs : List Loc} {ls : Array Slot} (hL : L ≤ 2048) (hx : p.tables.exec = Jvm.exec) (hb : c.code = cL_law) (hml : c.maxLocals = 4) (hown : s.vm.findClass RL = some m.cls) (hts : ∀ w ∈ wsL_law, w.before #[Value.ref b] s = true) (hX : va_X b L xs s s.heap) (hbl : b < s.heap.size) (hbA : ¬ hp_A B b) (hK : va_K (dC, dI) vwCl (hp_ty dA) s) (hN : hp_N s) (hW : hp_W κ B) (kx : κ x = 1) (km : κ mo = 11) (hv : v.toInt = (k : Int)) (hkL : k + 4 ≤ L) (hkg : hg_k g) (htc : g 1 1 = g 11 1) (hup : ∀ j : Nat, j < 4 → g (5 + j) 0 = g 20 j) (hJ : hp_J dC dI dA κ B g s.heap H locs) (hl : lv_has ls 4 [(0, .ref b), (1, .ref x), (2, .ref mo), (3, .int v)])
    (nxt : ∀ (g' : Nat → Nat → Int) (H : Heap) (locs : List Loc) (ls : Array Slot), hg_k g' → g' 1 1 = g' 11 1 → (∀ j : Nat, j < 4 → g' (5 + j) 0 = g' 20 j) → hp_J dC dI dA κ B g' s.heap H locs → lv_has ls 4 [(0, .ref b), (1, .ref x), (2, .ref mo), (3, .int v)] → W p l e room_1 s m #[Value.ref b] below meth c H locs 600000 7302250 (lw_Z below #[Value.ref b] s) (F0 m 462 ls [])) : W p l e room_1 s m #[Value.ref b] below meth c H locs 600000 7302250 (lw_Z below #[Value.ref b] s) (F0 m 96 ls []) := by
  refine lv_aload_n hx hb dL_law_96 rfl (lv_at hl 1 rfl) ?_
  refine lv_aload_n hx hb dL_law_97 rfl (lv_at hl 0 rfl) ?_
  refine lv_iload_n hx hb dL_law_98 rfl (lv_at hl 3 rfl) ?_
  refine hq_iconst hx hb dL_law_99 (by decide) (by decide) (fun z1 ez1 => ?_)
  refine hq_iadd hx hb dL_law_100 (by omega) (by omega) (fun w2 ew2 => ?_)
  refine va_sld hx hb hX hbl hbA hJ.2 (hi_in (by omega) (by omega)) dL_law_101 ?_
  refine lv_topi (fun y3 fy3 => ?_)
  have ey3 : y3 = xs (k + 1) := by rw [fy3, show w2.toNatClampNeg = k + 1 by have := hi_cl (x := w2) (by omega); omega]
  refine lv_i2l hx hb dL_law_102 rfl ?_
  refine hq_bipush hx hb dL_law_103 (by decide) (fun z4 ez4 => ?_)
  refine lv_lshl hx hb dL_law_105 rfl ?_
  refine lv_topl (fun a5 _ => ?_)
  refine lv_aload_n hx hb dL_law_106 rfl (lv_at hl 0 rfl) ?_
  refine lv_iload_n hx hb dL_law_107 rfl (lv_at hl 3 rfl) ?_
  refine hq_iconst hx hb dL_law_108 (by decide) (by decide) (fun z6 ez6 => ?_)
  refine hq_iadd hx hb dL_law_109 (by omega) (by omega) (fun w7 ew7 => ?_)
  refine va_sld hx hb hX hbl hbA hJ.2 (hi_in (by omega) (by omega)) dL_law_110 ?_
  refine lv_topi (fun y8 fy8 => ?_)
  have ey8 : y8 = xs (k + 2) := by rw [fy8, show w7.toNatClampNeg = k + 2 by have := hi_cl (x := w7) (by omega); omega]
  refine lv_i2l hx hb dL_law_111 rfl ?_
  refine lv_ldc2 hx hb hown (hts (.constantLong RL 13 (4294967295)) (List.mem_of_getElem? (i := 6) rfl)) dL_law_112 ?_
  refine lv_land hx hb dL_law_115 ?_
  refine lv_lor hx hb dL_law_116 ?_
  refine lv_topl (fun a9 _ => ?_)
  refine lv_aload_n hx hb dL_law_117 rfl (lv_at hl 0 rfl) ?_
  refine lv_iload_n hx hb dL_law_118 rfl (lv_at hl 3 rfl) ?_
  refine hq_iconst hx hb dL_law_119 (by decide) (by decide) (fun z10 ez10 => ?_)
  refine hq_iadd hx hb dL_law_120 (by omega) (by omega) (fun w11 ew11 => ?_)
  refine va_sld hx hb hX hbl hbA hJ.2 (hi_in (by omega) (by omega)) dL_law_121 ?_
  refine lv_topi (fun y12 fy12 => ?_)
  have ey12 : y12 = xs (k + 3) := by rw [fy12, show w11.toNatClampNeg = k + 3 by have := hi_cl (x := w11) (by omega); omega]
  refine hp_calli (va_runV (As := [.long a9, .int y12]) (rest := []) ⟨hx, hb, hml, hown, hts⟩ (c_X6_type l dC dI dA κ B g x kx a9 y12 hkg) (cwV 2 hts gL_law_X6_type rfl rfl rfl (by decide +kernel) ⟨Nat.le_of_ble_eq_true rfl, Nat.le_of_ble_eq_true rfl⟩) (hp_preV (q := (RX6, TX6, 12)) [.long a9, .int y12] hK hN hW hJ kx rfl rfl) rfl rfl hl.1 rfl (lv_room (Nat.le_of_ble_eq_true rfl)) dL_law_122 ⟨(by show 600000 + 0 ≤ 600000; omega), (by show 7302250 + 0 ≤ 7302250; omega)⟩) hJ (fun r13 g14 H locs hpg14 hJ => ?_)
  obtain ⟨Pg14, hkg14, f15⟩ := hpg14
  refine lv_pop hx hb dL_law_125 rfl ?_
  refine lv_aload_n hx hb dL_law_126 rfl (lv_at hl 2 rfl) ?_
  refine lv_aload_n hx hb dL_law_127 rfl (lv_at hl 0 rfl) ?_
  refine lv_iload_n hx hb dL_law_128 rfl (lv_at hl 3 rfl) ?_
  refine hq_iconst hx hb dL_law_129 (by decide) (by decide) (fun z16 ez16 => ?_)
  refine hq_iadd hx hb dL_law_130 (by omega) (by omega) (fun w17 ew17 => ?_)
  refine va_sld hx hb hX hbl hbA hJ.2 (hi_in (by omega) (by omega)) dL_law_131 ?_
  refine lv_topi (fun y18 fy18 => ?_)
  have ey18 : y18 = xs (k + 1) := by rw [fy18, show w17.toNatClampNeg = k + 1 by have := hi_cl (x := w17) (by omega); omega]
  refine lv_i2l hx hb dL_law_132 rfl ?_
  refine hq_bipush hx hb dL_law_133 (by decide) (fun z19 ez19 => ?_)
  refine lv_lshl hx hb dL_law_135 rfl ?_
  refine lv_topl (fun a20 _ => ?_)
  refine lv_aload_n hx hb dL_law_136 rfl (lv_at hl 0 rfl) ?_
  refine lv_iload_n hx hb dL_law_137 rfl (lv_at hl 3 rfl) ?_
  refine hq_iconst hx hb dL_law_138 (by decide) (by decide) (fun z21 ez21 => ?_)
  refine hq_iadd hx hb dL_law_139 (by omega) (by omega) (fun w22 ew22 => ?_)
  refine va_sld hx hb hX hbl hbA hJ.2 (hi_in (by omega) (by omega)) dL_law_140 ?_
  refine lv_topi (fun y23 fy23 => ?_)
  have ey23 : y23 = xs (k + 2) := by rw [fy23, show w22.toNatClampNeg = k + 2 by have := hi_cl (x := w22) (by omega); omega]
  refine lv_i2l hx hb dL_law_141 rfl ?_
  refine lv_ldc2 hx hb hown (hts (.constantLong RL 13 (4294967295)) (List.mem_of_getElem? (i := 6) rfl)) dL_law_142 ?_
  refine lv_land hx hb dL_law_145 ?_
  refine lv_lor hx hb dL_law_146 ?_
  refine lv_topl (fun a24 _ => ?_)
  refine lv_aload_n hx hb dL_law_147 rfl (lv_at hl 0 rfl) ?_
  refine lv_iload_n hx hb dL_law_148 rfl (lv_at hl 3 rfl) ?_
  refine hq_iconst hx hb dL_law_149 (by decide) (by decide) (fun z25 ez25 => ?_)
  refine hq_iadd hx hb dL_law_150 (by omega) (by omega) (fun w26 ew26 => ?_)
  refine va_sld hx hb hX hbl hbA hJ.2 (hi_in (by omega) (by omega)) dL_law_151 ?_
  refine lv_topi (fun y27 fy27 => ?_)
  have ey27 : y27 = xs (k + 3) := by rw [fy27, show w26.toNatClampNeg = k + 3 by have := hi_cl (x := w26) (by omega); omega]
  have qy27 : y12 = y27 := by rw [ey12, ey27]
  subst qy27
  refine hp_calli (va_runV (As := [.long a24, .int y12]) (rest := []) ⟨hx, hb, hml, hown, hts⟩ (c_X7_type l dC dI dA κ B g14 mo km a24 y12 hkg14) (cwV 2 hts gL_law_X7_type rfl rfl rfl (by decide +kernel) ⟨Nat.le_of_ble_eq_true rfl, Nat.le_of_ble_eq_true rfl⟩) (hp_preV (q := (RX7, TX7, 24)) [.long a24, .int y12] hK hN hW hJ km rfl rfl) rfl rfl hl.1 rfl (lv_room (Nat.le_of_ble_eq_true rfl)) dL_law_152 ⟨(by show 600000 + 0 ≤ 600000; omega), (by show 7302250 + 0 ≤ 7302250; omega)⟩) hJ (fun r28 g29 H locs hpg29 hJ => ?_)
  obtain ⟨Pg29, hkg29, f30⟩ := hpg29
  refine lv_pop hx hb dL_law_155 rfl ?_
  have t1 : g14 11 1 = g 11 1 := Pg14 11 1 rfl
  have t2 : g29 1 1 = g14 1 1 := Pg29 1 1 rfl
  have t3 := t1
  have t4 := t2
  have u1 : ∀ j : Nat, g14 20 j = g 20 j := fun j => Pg14 20 j rfl
  have hup2 : ∀ j : Nat, j < 4 → g29 (5 + j) 0 = g29 20 j := fun j hj => by
    rw [Pg29 (5 + j) 0 (hx_eM _ _ (hx_M5 hj)), Pg14 (5 + j) 0 (hx_d50 hj), Pg29 20 j rfl, u1 j]
    exact hup j hj
  have htc2 : g29 1 1 = g29 11 1 := by omega
  refine lv_goto (tgt := 462) hx hb dL_law_156 (by decide) ?_
  exact nxt g29 _ _ ls hkg29 htc2 hup2 hJ (lv_sub hl [0, 1, 2, 3] rfl)
set_option maxRecDepth 100000 in
set_option maxHeartbeats 8000000 in
theorem law_tell {p : Program} {l : Launch} {e : Env} {s : State} {m : MethodId} {below : List Frame} {meth : Method} {c : Code} {dC : Nat → ClassId} {dI : Nat → Nat → Nat} {dA : Nat → ClassId} {κ : Nat → Nat} {B b L x mo k : Nat} {xs : Nat → Int32} {v : Int32} {g : Nat → Nat → Int} {H : Heap} {locs : List Loc} {ls : Array Slot} (hL : L ≤ 2048) (hx : p.tables.exec = Jvm.exec) (hb : c.code = cL_law) (hml : c.maxLocals = 4) (hown : s.vm.findClass RL = some m.cls) (hts : ∀ w ∈ wsL_law, w.before #[Value.ref b] s = true) (hX : va_X b L xs s s.heap) (hbl : b < s.heap.size) (hbA : ¬ hp_A B b) (hK : va_K (dC, dI) vwCl (hp_ty dA) s) (hN : hp_N s) (hW : hp_W κ B) (kx : κ x = 1) (km : κ mo = 11) (hv : v.toInt = (k : Int)) (hkL : k + 4 ≤ L) (hkg : hg_k g) (htc : g 1 1 = g 11 1) (hup : ∀ j : Nat, j < 4 → g (5 + j) 0 = g 20 j) (hJ : hp_J dC dI dA κ B g s.heap H locs) (hl : lv_has ls 4 [(0, .ref b), (1, .ref x), (2, .ref mo), (3, .int v)])
    (nxt : ∀ (g' : Nat → Nat → Int) (H : Heap) (locs : List Loc) (ls : Array Slot), hg_k g' → g' 1 1 = g' 11 1 → (∀ j : Nat, j < 4 → g' (5 + j) 0 = g' 20 j) → hp_J dC dI dA κ B g' s.heap H locs → lv_has ls 4 [(0, .ref b), (1, .ref x), (2, .ref mo), (3, .int v)] → W p l e room_1 s m #[Value.ref b] below meth c H locs 600000 7302250 (lw_Z below #[Value.ref b] s) (F0 m 462 ls [])) : W p l e room_1 s m #[Value.ref b] below meth c H locs 600000 7302250 (lw_Z below #[Value.ref b] s) (F0 m 159 ls []) := by
  refine lv_aload_n hx hb dL_law_159 rfl (lv_at hl 1 rfl) ?_
  refine lv_aload_n hx hb dL_law_160 rfl (lv_at hl 0 rfl) ?_
  refine lv_iload_n hx hb dL_law_161 rfl (lv_at hl 3 rfl) ?_
  refine hq_iconst hx hb dL_law_162 (by decide) (by decide) (fun z1 ez1 => ?_)
  refine hq_iadd hx hb dL_law_163 (by omega) (by omega) (fun w2 ew2 => ?_)
  refine va_sld hx hb hX hbl hbA hJ.2 (hi_in (by omega) (by omega)) dL_law_164 ?_
  refine lv_topi (fun y3 fy3 => ?_)
  have ey3 : y3 = xs (k + 1) := by rw [fy3, show w2.toNatClampNeg = k + 1 by have := hi_cl (x := w2) (by omega); omega]
  refine hp_calli (va_runV (As := [.int y3]) (rest := []) ⟨hx, hb, hml, hown, hts⟩ (c_X6_tell l dC dI dA κ B g x kx y3 hkg) (cwV 1 hts gL_law_X6_tell rfl rfl rfl (by decide +kernel) ⟨Nat.le_of_ble_eq_true rfl, Nat.le_of_ble_eq_true rfl⟩) (hp_preV (q := (RX6, TX6, 12)) [.int y3] hK hN hW hJ kx rfl rfl) rfl rfl hl.1 rfl (lv_room (Nat.le_of_ble_eq_true rfl)) dL_law_165 ⟨(by show 600000 + 0 ≤ 600000; omega), (by show 7302250 + 0 ≤ 7302250; omega)⟩) hJ (fun r4 g5 H locs hpg5 hJ => ?_)
  obtain ⟨Pg5, hkg5, f6⟩ := hpg5
  refine lv_aload_n hx hb dL_law_168 rfl (lv_at hl 2 rfl) ?_
  refine lv_aload_n hx hb dL_law_169 rfl (lv_at hl 0 rfl) ?_
  refine lv_iload_n hx hb dL_law_170 rfl (lv_at hl 3 rfl) ?_
  refine hq_iconst hx hb dL_law_171 (by decide) (by decide) (fun z7 ez7 => ?_)
  refine hq_iadd hx hb dL_law_172 (by omega) (by omega) (fun w8 ew8 => ?_)
  refine va_sld hx hb hX hbl hbA hJ.2 (hi_in (by omega) (by omega)) dL_law_173 ?_
  refine lv_topi (fun y9 fy9 => ?_)
  have ey9 : y9 = xs (k + 1) := by rw [fy9, show w8.toNatClampNeg = k + 1 by have := hi_cl (x := w8) (by omega); omega]
  have qy9 : y3 = y9 := by rw [ey3, ey9]
  subst qy9
  refine hp_calli (va_runV (As := [.int y3]) (rest := [.int r4]) ⟨hx, hb, hml, hown, hts⟩ (c_X7_tell l dC dI dA κ B g5 mo km y3 hkg5) (cwV 1 hts gL_law_X7_tell rfl rfl rfl (by decide +kernel) ⟨Nat.le_of_ble_eq_true rfl, Nat.le_of_ble_eq_true rfl⟩) (hp_preV (q := (RX7, TX7, 24)) [.int y3] hK hN hW hJ km rfl rfl) rfl rfl hl.1 rfl (lv_room (Nat.le_of_ble_eq_true rfl)) dL_law_174 ⟨(by show 600000 + 0 ≤ 600000; omega), (by show 7302250 + 0 ≤ 7302250; omega)⟩) hJ (fun r10 g11 H locs hpg11 hJ => ?_)
  obtain ⟨Pg11, hkg11, f12⟩ := hpg11
  have t1 : g5 11 1 = g 11 1 := Pg5 11 1 rfl
  have t2 : g11 1 1 = g5 1 1 := Pg11 1 1 rfl
  have t3 := t1
  have t4 := t2
  have u1 : ∀ j : Nat, g5 20 j = g 20 j := fun j => Pg5 20 j rfl
  have hup2 : ∀ j : Nat, j < 4 → g11 (5 + j) 0 = g11 20 j := fun j hj => by
    rw [Pg11 (5 + j) 0 (hx_eM _ _ (hx_M5 hj)), Pg5 (5 + j) 0 (hx_d50 hj), Pg11 20 j rfl, u1 j]
    exact hup j hj
  have htc2 : g11 1 1 = g11 11 1 := by omega
  refine hq_icmp_eq (tgt := 462) hx hb dL_law_177 (by decide) (fun c9 => ?_) (fun c9 => ?_)
  · exact nxt g11 _ _ ls hkg11 htc2 hup2 hJ (lv_sub hl [0, 1, 2, 3] rfl)
  · exfalso; omega
set_option maxRecDepth 100000 in
set_option maxHeartbeats 8000000 in
theorem law_set {p : Program} {l : Launch} {e : Env} {s : State} {m : MethodId} {below : List Frame} {meth : Method} {c : Code} {dC : Nat → ClassId} {dI : Nat → Nat → Nat} {dA : Nat → ClassId} {κ : Nat → Nat} {B b L x mo k : Nat} {xs : Nat → Int32} {v : Int32} {g : Nat → Nat → Int} {H : Heap} {locs : List Loc} {ls : Array Slot} (hL : L ≤ 2048) (hx : p.tables.exec = Jvm.exec) (hb : c.code = cL_law) (hml : c.maxLocals = 4) (hown : s.vm.findClass RL = some m.cls) (hts : ∀ w ∈ wsL_law, w.before #[Value.ref b] s = true) (hX : va_X b L xs s s.heap) (hbl : b < s.heap.size) (hbA : ¬ hp_A B b) (hK : va_K (dC, dI) vwCl (hp_ty dA) s) (hN : hp_N s) (hW : hp_W κ B) (kx : κ x = 1) (km : κ mo = 11) (hv : v.toInt = (k : Int)) (hkL : k + 4 ≤ L) (hkg : hg_k g) (htc : g 1 1 = g 11 1) (hup : ∀ j : Nat, j < 4 → g (5 + j) 0 = g 20 j) (hJ : hp_J dC dI dA κ B g s.heap H locs) (hl : lv_has ls 4 [(0, .ref b), (1, .ref x), (2, .ref mo), (3, .int v)])
    (nxt : ∀ (g' : Nat → Nat → Int) (H : Heap) (locs : List Loc) (ls : Array Slot), hg_k g' → g' 1 1 = g' 11 1 → (∀ j : Nat, j < 4 → g' (5 + j) 0 = g' 20 j) → hp_J dC dI dA κ B g' s.heap H locs → lv_has ls 4 [(0, .ref b), (1, .ref x), (2, .ref mo), (3, .int v)] → W p l e room_1 s m #[Value.ref b] below meth c H locs 600000 7302250 (lw_Z below #[Value.ref b] s) (F0 m 462 ls [])) : W p l e room_1 s m #[Value.ref b] below meth c H locs 600000 7302250 (lw_Z below #[Value.ref b] s) (F0 m 182 ls []) := by
  refine lv_aload_n hx hb dL_law_182 rfl (lv_at hl 1 rfl) ?_
  refine lv_aload_n hx hb dL_law_183 rfl (lv_at hl 0 rfl) ?_
  refine lv_iload_n hx hb dL_law_184 rfl (lv_at hl 3 rfl) ?_
  refine hq_iconst hx hb dL_law_185 (by decide) (by decide) (fun z1 ez1 => ?_)
  refine hq_iadd hx hb dL_law_186 (by omega) (by omega) (fun w2 ew2 => ?_)
  refine va_sld hx hb hX hbl hbA hJ.2 (hi_in (by omega) (by omega)) dL_law_187 ?_
  refine lv_topi (fun y3 fy3 => ?_)
  have ey3 : y3 = xs (k + 1) := by rw [fy3, show w2.toNatClampNeg = k + 1 by have := hi_cl (x := w2) (by omega); omega]
  refine lv_aload_n hx hb dL_law_188 rfl (lv_at hl 0 rfl) ?_
  refine lv_iload_n hx hb dL_law_189 rfl (lv_at hl 3 rfl) ?_
  refine hq_iconst hx hb dL_law_190 (by decide) (by decide) (fun z4 ez4 => ?_)
  refine hq_iadd hx hb dL_law_191 (by omega) (by omega) (fun w5 ew5 => ?_)
  refine va_sld hx hb hX hbl hbA hJ.2 (hi_in (by omega) (by omega)) dL_law_192 ?_
  refine lv_topi (fun y6 fy6 => ?_)
  have ey6 : y6 = xs (k + 2) := by rw [fy6, show w5.toNatClampNeg = k + 2 by have := hi_cl (x := w5) (by omega); omega]
  refine hp_calli (va_runV (As := [.int y3, .int y6]) (rest := []) ⟨hx, hb, hml, hown, hts⟩ (c_X6_set l dC dI dA κ B g x kx y3 y6) (cwV 2 hts gL_law_X6_set rfl rfl rfl (by decide +kernel) ⟨Nat.le_of_ble_eq_true rfl, Nat.le_of_ble_eq_true rfl⟩) (hp_preV (q := (RX6, TX6, 12)) [.int y3, .int y6] hK hN hW hJ kx rfl rfl) rfl rfl hl.1 rfl (lv_room (Nat.le_of_ble_eq_true rfl)) dL_law_193 ⟨(by show 600000 + 0 ≤ 600000; omega), (by show 7302250 + 0 ≤ 7302250; omega)⟩) hJ (fun r7 g8 H locs hpg8 hJ => ?_)
  obtain ⟨eg8, f9⟩ := hpg8
  subst eg8
  refine lv_pop hx hb dL_law_196 rfl ?_
  refine lv_aload_n hx hb dL_law_197 rfl (lv_at hl 2 rfl) ?_
  refine lv_aload_n hx hb dL_law_198 rfl (lv_at hl 0 rfl) ?_
  refine lv_iload_n hx hb dL_law_199 rfl (lv_at hl 3 rfl) ?_
  refine hq_iconst hx hb dL_law_200 (by decide) (by decide) (fun z10 ez10 => ?_)
  refine hq_iadd hx hb dL_law_201 (by omega) (by omega) (fun w11 ew11 => ?_)
  refine va_sld hx hb hX hbl hbA hJ.2 (hi_in (by omega) (by omega)) dL_law_202 ?_
  refine lv_topi (fun y12 fy12 => ?_)
  have ey12 : y12 = xs (k + 1) := by rw [fy12, show w11.toNatClampNeg = k + 1 by have := hi_cl (x := w11) (by omega); omega]
  refine lv_aload_n hx hb dL_law_203 rfl (lv_at hl 0 rfl) ?_
  refine lv_iload_n hx hb dL_law_204 rfl (lv_at hl 3 rfl) ?_
  refine hq_iconst hx hb dL_law_205 (by decide) (by decide) (fun z13 ez13 => ?_)
  refine hq_iadd hx hb dL_law_206 (by omega) (by omega) (fun w14 ew14 => ?_)
  refine va_sld hx hb hX hbl hbA hJ.2 (hi_in (by omega) (by omega)) dL_law_207 ?_
  refine lv_topi (fun y15 fy15 => ?_)
  have ey15 : y15 = xs (k + 2) := by rw [fy15, show w14.toNatClampNeg = k + 2 by have := hi_cl (x := w14) (by omega); omega]
  have qy12 : y3 = y12 := by rw [ey3, ey12]
  subst qy12
  have qy15 : y6 = y15 := by rw [ey6, ey15]
  subst qy15
  refine hp_calli (va_runV (As := [.int y3, .int y6]) (rest := []) ⟨hx, hb, hml, hown, hts⟩ (c_X7_set l dC dI dA κ B g mo km y3 y6) (cwV 2 hts gL_law_X7_set rfl rfl rfl (by decide +kernel) ⟨Nat.le_of_ble_eq_true rfl, Nat.le_of_ble_eq_true rfl⟩) (hp_preV (q := (RX7, TX7, 24)) [.int y3, .int y6] hK hN hW hJ km rfl rfl) rfl rfl hl.1 rfl (lv_room (Nat.le_of_ble_eq_true rfl)) dL_law_208 ⟨(by show 600000 + 0 ≤ 600000; omega), (by show 7302250 + 0 ≤ 7302250; omega)⟩) hJ (fun r16 g17 H locs hpg17 hJ => ?_)
  obtain ⟨eg17, f18⟩ := hpg17
  subst eg17
  refine lv_pop hx hb dL_law_211 rfl ?_
  refine lv_goto (tgt := 462) hx hb dL_law_212 (by decide) ?_
  exact nxt g _ _ ls hkg htc hup hJ (lv_sub hl [0, 1, 2, 3] rfl)
set_option maxRecDepth 100000 in
set_option maxHeartbeats 8000000 in
theorem law_port {p : Program} {l : Launch} {e : Env} {s : State} {m : MethodId} {below : List Frame} {meth : Method} {c : Code} {dC : Nat → ClassId} {dI : Nat → Nat → Nat} {dA : Nat → ClassId} {κ : Nat → Nat} {B b L x mo k : Nat} {xs : Nat → Int32} {v : Int32} {g : Nat → Nat → Int} {H : Heap} {locs : List Loc} {ls : Array Slot} (hL : L ≤ 2048) (hx : p.tables.exec = Jvm.exec) (hb : c.code = cL_law) (hml : c.maxLocals = 4) (hown : s.vm.findClass RL = some m.cls) (hts : ∀ w ∈ wsL_law, w.before #[Value.ref b] s = true) (hX : va_X b L xs s s.heap) (hbl : b < s.heap.size) (hbA : ¬ hp_A B b) (hK : va_K (dC, dI) vwCl (hp_ty dA) s) (hN : hp_N s) (hW : hp_W κ B) (kx : κ x = 1) (km : κ mo = 11) (hv : v.toInt = (k : Int)) (hkL : k + 4 ≤ L) (hkg : hg_k g) (htc : g 1 1 = g 11 1) (hup : ∀ j : Nat, j < 4 → g (5 + j) 0 = g 20 j) (hJ : hp_J dC dI dA κ B g s.heap H locs) (hl : lv_has ls 4 [(0, .ref b), (1, .ref x), (2, .ref mo), (3, .int v)])
    (nxt : ∀ (g' : Nat → Nat → Int) (H : Heap) (locs : List Loc) (ls : Array Slot), hg_k g' → g' 1 1 = g' 11 1 → (∀ j : Nat, j < 4 → g' (5 + j) 0 = g' 20 j) → hp_J dC dI dA κ B g' s.heap H locs → lv_has ls 4 [(0, .ref b), (1, .ref x), (2, .ref mo), (3, .int v)] → W p l e room_1 s m #[Value.ref b] below meth c H locs 600000 7302250 (lw_Z below #[Value.ref b] s) (F0 m 462 ls [])) : W p l e room_1 s m #[Value.ref b] below meth c H locs 600000 7302250 (lw_Z below #[Value.ref b] s) (F0 m 215 ls []) := by
  refine lv_aload_n hx hb dL_law_215 rfl (lv_at hl 1 rfl) ?_
  refine lv_aload_n hx hb dL_law_216 rfl (lv_at hl 0 rfl) ?_
  refine lv_iload_n hx hb dL_law_217 rfl (lv_at hl 3 rfl) ?_
  refine hq_iconst hx hb dL_law_218 (by decide) (by decide) (fun z1 ez1 => ?_)
  refine hq_iadd hx hb dL_law_219 (by omega) (by omega) (fun w2 ew2 => ?_)
  refine va_sld hx hb hX hbl hbA hJ.2 (hi_in (by omega) (by omega)) dL_law_220 ?_
  refine lv_topi (fun y3 fy3 => ?_)
  have ey3 : y3 = xs (k + 1) := by rw [fy3, show w2.toNatClampNeg = k + 1 by have := hi_cl (x := w2) (by omega); omega]
  refine lv_aload_n hx hb dL_law_221 rfl (lv_at hl 0 rfl) ?_
  refine lv_iload_n hx hb dL_law_222 rfl (lv_at hl 3 rfl) ?_
  refine hq_iconst hx hb dL_law_223 (by decide) (by decide) (fun z4 ez4 => ?_)
  refine hq_iadd hx hb dL_law_224 (by omega) (by omega) (fun w5 ew5 => ?_)
  refine va_sld hx hb hX hbl hbA hJ.2 (hi_in (by omega) (by omega)) dL_law_225 ?_
  refine lv_topi (fun y6 fy6 => ?_)
  have ey6 : y6 = xs (k + 2) := by rw [fy6, show w5.toNatClampNeg = k + 2 by have := hi_cl (x := w5) (by omega); omega]
  refine hp_calli (va_runV (As := [.int y3, .int y6]) (rest := []) ⟨hx, hb, hml, hown, hts⟩ (c_X6_port l dC dI dA κ B g x kx y3 y6 hkg) (cwV 2 hts gL_law_X6_port rfl rfl rfl (by decide +kernel) ⟨Nat.le_of_ble_eq_true rfl, Nat.le_of_ble_eq_true rfl⟩) (hp_preV (q := (RX6, TX6, 12)) [.int y3, .int y6] hK hN hW hJ kx rfl rfl) rfl rfl hl.1 rfl (lv_room (Nat.le_of_ble_eq_true rfl)) dL_law_226 ⟨(by show 600000 + 0 ≤ 600000; omega), (by show 7302250 + 0 ≤ 7302250; omega)⟩) hJ (fun r7 g8 H locs hpg8 hJ => ?_)
  obtain ⟨Pg8, hkg8, f9⟩ := hpg8
  refine lv_pop hx hb dL_law_229 rfl ?_
  refine lv_aload_n hx hb dL_law_230 rfl (lv_at hl 2 rfl) ?_
  refine lv_aload_n hx hb dL_law_231 rfl (lv_at hl 0 rfl) ?_
  refine lv_iload_n hx hb dL_law_232 rfl (lv_at hl 3 rfl) ?_
  refine hq_iconst hx hb dL_law_233 (by decide) (by decide) (fun z10 ez10 => ?_)
  refine hq_iadd hx hb dL_law_234 (by omega) (by omega) (fun w11 ew11 => ?_)
  refine va_sld hx hb hX hbl hbA hJ.2 (hi_in (by omega) (by omega)) dL_law_235 ?_
  refine lv_topi (fun y12 fy12 => ?_)
  have ey12 : y12 = xs (k + 1) := by rw [fy12, show w11.toNatClampNeg = k + 1 by have := hi_cl (x := w11) (by omega); omega]
  refine lv_aload_n hx hb dL_law_236 rfl (lv_at hl 0 rfl) ?_
  refine lv_iload_n hx hb dL_law_237 rfl (lv_at hl 3 rfl) ?_
  refine hq_iconst hx hb dL_law_238 (by decide) (by decide) (fun z13 ez13 => ?_)
  refine hq_iadd hx hb dL_law_239 (by omega) (by omega) (fun w14 ew14 => ?_)
  refine va_sld hx hb hX hbl hbA hJ.2 (hi_in (by omega) (by omega)) dL_law_240 ?_
  refine lv_topi (fun y15 fy15 => ?_)
  have ey15 : y15 = xs (k + 2) := by rw [fy15, show w14.toNatClampNeg = k + 2 by have := hi_cl (x := w14) (by omega); omega]
  have qy12 : y3 = y12 := by rw [ey3, ey12]
  subst qy12
  have qy15 : y6 = y15 := by rw [ey6, ey15]
  subst qy15
  refine hp_calli (va_runV (As := [.int y3, .int y6]) (rest := []) ⟨hx, hb, hml, hown, hts⟩ (c_X7_port l dC dI dA κ B g8 mo km y3 y6 hkg8) (cwV 2 hts gL_law_X7_port rfl rfl rfl (by decide +kernel) ⟨Nat.le_of_ble_eq_true rfl, Nat.le_of_ble_eq_true rfl⟩) (hp_preV (q := (RX7, TX7, 24)) [.int y3, .int y6] hK hN hW hJ km rfl rfl) rfl rfl hl.1 rfl (lv_room (Nat.le_of_ble_eq_true rfl)) dL_law_241 ⟨(by show 600000 + 0 ≤ 600000; omega), (by show 7302250 + 0 ≤ 7302250; omega)⟩) hJ (fun r16 g17 H locs hpg17 hJ => ?_)
  obtain ⟨Pg17, hkg17, f18⟩ := hpg17
  refine lv_pop hx hb dL_law_244 rfl ?_
  have t1 : g8 11 1 = g 11 1 := Pg8 11 1 rfl
  have t2 : g17 1 1 = g8 1 1 := Pg17 1 1 rfl
  have u1 : ∀ j : Nat, g8 20 j = g 20 j := fun j => Pg8 20 j rfl
  have u2 : ∀ j : Nat, j < 4 → g17 (5 + j) 0 = g8 (5 + j) 0 := fun j hj => Pg17 (5 + j) 0 (hx_M5 hj)
  obtain ⟨s1, f9⟩ := f9
  obtain ⟨s2, f18⟩ := f18
  have htc2 : g17 1 1 = g17 11 1 := by omega
  have hu1 := u1 y3.toInt.toNat
  have hres : r7.toInt = r16.toInt ∧ ∀ j : Nat, j < 4 → g17 (5 + j) 0 = g17 20 j := by
    rcases f9 with ⟨hA, hr1, hB1⟩ | ⟨hA, hr1, hB1⟩
    · have hu0 := hup y3.toInt.toNat (by omega)
      rcases f18 with ⟨hC, hr2, hD1⟩ | ⟨hC, hr2, hD1⟩
      · exact ⟨by omega, fun j hj => by rw [u2 j hj, hB1 j hj, hD1 j hj, u1 j, hup j hj]⟩
      · exact absurd (by omega) hC
    · rcases f18 with ⟨hC, hr2, hD1⟩ | ⟨hC, hr2, hD1⟩
      · have hu0 := hup y3.toInt.toNat (by omega)
        exact absurd (by omega) hA
      · exact ⟨by omega, fun j hj => by rw [u2 j hj, ← hD1, u1 j, ← hB1]; exact hup j hj⟩
  refine lv_goto (tgt := 462) hx hb dL_law_245 (by decide) ?_
  exact nxt g17 _ _ ls hkg17 htc2 hres.2 hJ (lv_sub hl [0, 1, 2, 3] rfl)
set_option maxRecDepth 100000 in
set_option maxHeartbeats 8000000 in
theorem law_hear {p : Program} {l : Launch} {e : Env} {s : State} {m : MethodId} {below : List Frame} {meth : Method} {c : Code} {dC : Nat → ClassId} {dI : Nat → Nat → Nat} {dA : Nat → ClassId} {κ : Nat → Nat} {B b L x mo k : Nat} {xs : Nat → Int32} {v : Int32} {g : Nat → Nat → Int} {H : Heap} {locs : List Loc} {ls : Array Slot} (hL : L ≤ 2048) (hx : p.tables.exec = Jvm.exec) (hb : c.code = cL_law) (hml : c.maxLocals = 4) (hown : s.vm.findClass RL = some m.cls) (hts : ∀ w ∈ wsL_law, w.before #[Value.ref b] s = true) (hX : va_X b L xs s s.heap) (hbl : b < s.heap.size) (hbA : ¬ hp_A B b) (hK : va_K (dC, dI) vwCl (hp_ty dA) s) (hN : hp_N s) (hW : hp_W κ B) (kx : κ x = 1) (km : κ mo = 11) (hv : v.toInt = (k : Int)) (hkL : k + 4 ≤ L) (hkg : hg_k g) (htc : g 1 1 = g 11 1) (hup : ∀ j : Nat, j < 4 → g (5 + j) 0 = g 20 j) (hJ : hp_J dC dI dA κ B g s.heap H locs) (hl : lv_has ls 4 [(0, .ref b), (1, .ref x), (2, .ref mo), (3, .int v)])
    (nxt : ∀ (g' : Nat → Nat → Int) (H : Heap) (locs : List Loc) (ls : Array Slot), hg_k g' → g' 1 1 = g' 11 1 → (∀ j : Nat, j < 4 → g' (5 + j) 0 = g' 20 j) → hp_J dC dI dA κ B g' s.heap H locs → lv_has ls 4 [(0, .ref b), (1, .ref x), (2, .ref mo), (3, .int v)] → W p l e room_1 s m #[Value.ref b] below meth c H locs 600000 7302250 (lw_Z below #[Value.ref b] s) (F0 m 462 ls [])) : W p l e room_1 s m #[Value.ref b] below meth c H locs 600000 7302250 (lw_Z below #[Value.ref b] s) (F0 m 248 ls []) := by
  refine lv_aload_n hx hb dL_law_248 rfl (lv_at hl 1 rfl) ?_
  refine lv_aload_n hx hb dL_law_249 rfl (lv_at hl 0 rfl) ?_
  refine lv_iload_n hx hb dL_law_250 rfl (lv_at hl 3 rfl) ?_
  refine hq_iconst hx hb dL_law_251 (by decide) (by decide) (fun z1 ez1 => ?_)
  refine hq_iadd hx hb dL_law_252 (by omega) (by omega) (fun w2 ew2 => ?_)
  refine va_sld hx hb hX hbl hbA hJ.2 (hi_in (by omega) (by omega)) dL_law_253 ?_
  refine lv_topi (fun y3 fy3 => ?_)
  have ey3 : y3 = xs (k + 1) := by rw [fy3, show w2.toNatClampNeg = k + 1 by have := hi_cl (x := w2) (by omega); omega]
  refine hp_calli (va_runV (As := [.int y3]) (rest := []) ⟨hx, hb, hml, hown, hts⟩ (c_X6_hear l dC dI dA κ B g x kx y3 hkg) (cwV 1 hts gL_law_X6_hear rfl rfl rfl (by decide +kernel) ⟨Nat.le_of_ble_eq_true rfl, Nat.le_of_ble_eq_true rfl⟩) (hp_preV (q := (RX6, TX6, 12)) [.int y3] hK hN hW hJ kx rfl rfl) rfl rfl hl.1 rfl (lv_room (Nat.le_of_ble_eq_true rfl)) dL_law_254 ⟨(by show 600000 + 0 ≤ 600000; omega), (by show 7302250 + 0 ≤ 7302250; omega)⟩) hJ (fun r4 g5 H locs hpg5 hJ => ?_)
  obtain ⟨Pg5, hkg5, f6⟩ := hpg5
  refine lv_pop hx hb dL_law_257 rfl ?_
  refine lv_aload_n hx hb dL_law_258 rfl (lv_at hl 2 rfl) ?_
  refine lv_aload_n hx hb dL_law_259 rfl (lv_at hl 0 rfl) ?_
  refine lv_iload_n hx hb dL_law_260 rfl (lv_at hl 3 rfl) ?_
  refine hq_iconst hx hb dL_law_261 (by decide) (by decide) (fun z7 ez7 => ?_)
  refine hq_iadd hx hb dL_law_262 (by omega) (by omega) (fun w8 ew8 => ?_)
  refine va_sld hx hb hX hbl hbA hJ.2 (hi_in (by omega) (by omega)) dL_law_263 ?_
  refine lv_topi (fun y9 fy9 => ?_)
  have ey9 : y9 = xs (k + 1) := by rw [fy9, show w8.toNatClampNeg = k + 1 by have := hi_cl (x := w8) (by omega); omega]
  have qy9 : y3 = y9 := by rw [ey3, ey9]
  subst qy9
  refine hp_calli (va_runV (As := [.int y3]) (rest := []) ⟨hx, hb, hml, hown, hts⟩ (c_X7_hear l dC dI dA κ B g5 mo km y3 hkg5) (cwV 1 hts gL_law_X7_hear rfl rfl rfl (by decide +kernel) ⟨Nat.le_of_ble_eq_true rfl, Nat.le_of_ble_eq_true rfl⟩) (hp_preV (q := (RX7, TX7, 24)) [.int y3] hK hN hW hJ km rfl rfl) rfl rfl hl.1 rfl (lv_room (Nat.le_of_ble_eq_true rfl)) dL_law_264 ⟨(by show 600000 + 0 ≤ 600000; omega), (by show 7302250 + 0 ≤ 7302250; omega)⟩) hJ (fun r10 g11 H locs hpg11 hJ => ?_)
  obtain ⟨Pg11, hkg11, f12⟩ := hpg11
  refine lv_pop hx hb dL_law_267 rfl ?_
  have t1 : g5 11 1 = g 11 1 := Pg5 11 1 rfl
  have t2 : g11 1 1 = g5 1 1 := Pg11 1 1 rfl
  have t3 := t1
  have t4 := t2
  have u1 : ∀ j : Nat, g5 20 j = g 20 j := fun j => Pg5 20 j rfl
  have hup2 : ∀ j : Nat, j < 4 → g11 (5 + j) 0 = g11 20 j := fun j hj => by
    rw [Pg11 (5 + j) 0 (hx_eM _ _ (hx_M5 hj)), Pg5 (5 + j) 0 (hx_d50 hj), Pg11 20 j rfl, u1 j]
    exact hup j hj
  have hu1 := u1 y3.toInt.toNat
  have htc2 : g11 1 1 = g11 11 1 := by
    by_cases hr9 : 0 ≤ y3.toInt ∧ y3.toInt < 4
    · have hu0 := hup y3.toInt.toNat (by omega)
      omega
    · omega
  refine lv_goto (tgt := 462) hx hb dL_law_268 (by decide) ?_
  exact nxt g11 _ _ ls hkg11 htc2 hup2 hJ (lv_sub hl [0, 1, 2, 3] rfl)
set_option maxRecDepth 100000 in
set_option maxHeartbeats 8000000 in
theorem law_tick {p : Program} {l : Launch} {e : Env} {s : State} {m : MethodId} {below : List Frame} {meth : Method} {c : Code} {dC : Nat → ClassId} {dI : Nat → Nat → Nat} {dA : Nat → ClassId} {κ : Nat → Nat} {B b L x mo k : Nat} {xs : Nat → Int32} {v : Int32} {g : Nat → Nat → Int} {H : Heap} {locs : List Loc} {ls : Array Slot} (hL : L ≤ 2048) (hx : p.tables.exec = Jvm.exec) (hb : c.code = cL_law) (hml : c.maxLocals = 4) (hown : s.vm.findClass RL = some m.cls) (hts : ∀ w ∈ wsL_law, w.before #[Value.ref b] s = true) (hX : va_X b L xs s s.heap) (hbl : b < s.heap.size) (hbA : ¬ hp_A B b) (hK : va_K (dC, dI) vwCl (hp_ty dA) s) (hN : hp_N s) (hW : hp_W κ B) (kx : κ x = 1) (km : κ mo = 11) (hv : v.toInt = (k : Int)) (hkL : k + 4 ≤ L) (hkg : hg_k g) (htc : g 1 1 = g 11 1) (hup : ∀ j : Nat, j < 4 → g (5 + j) 0 = g 20 j) (hJ : hp_J dC dI dA κ B g s.heap H locs) (hl : lv_has ls 4 [(0, .ref b), (1, .ref x), (2, .ref mo), (3, .int v)])
    (nxt : ∀ (g' : Nat → Nat → Int) (H : Heap) (locs : List Loc) (ls : Array Slot), hg_k g' → g' 1 1 = g' 11 1 → (∀ j : Nat, j < 4 → g' (5 + j) 0 = g' 20 j) → hp_J dC dI dA κ B g' s.heap H locs → lv_has ls 4 [(0, .ref b), (1, .ref x), (2, .ref mo), (3, .int v)] → W p l e room_1 s m #[Value.ref b] below meth c H locs 600000 7302250 (lw_Z below #[Value.ref b] s) (F0 m 462 ls [])) : W p l e room_1 s m #[Value.ref b] below meth c H locs 600000 7302250 (lw_Z below #[Value.ref b] s) (F0 m 271 ls []) := by
  refine lv_aload_n hx hb dL_law_271 rfl (lv_at hl 1 rfl) ?_
  refine lv_aload_n hx hb dL_law_272 rfl (lv_at hl 0 rfl) ?_
  refine lv_iload_n hx hb dL_law_273 rfl (lv_at hl 3 rfl) ?_
  refine hq_iconst hx hb dL_law_274 (by decide) (by decide) (fun z1 ez1 => ?_)
  refine hq_iadd hx hb dL_law_275 (by omega) (by omega) (fun w2 ew2 => ?_)
  refine va_sld hx hb hX hbl hbA hJ.2 (hi_in (by omega) (by omega)) dL_law_276 ?_
  refine lv_topi (fun y3 fy3 => ?_)
  have ey3 : y3 = xs (k + 1) := by rw [fy3, show w2.toNatClampNeg = k + 1 by have := hi_cl (x := w2) (by omega); omega]
  refine hp_calli (va_runV (As := [.int y3]) (rest := []) ⟨hx, hb, hml, hown, hts⟩ (c_X6_tick l dC dI dA κ B g x kx y3 hkg) (cwV 1 hts gL_law_X6_tick rfl rfl rfl (by decide +kernel) ⟨Nat.le_of_ble_eq_true rfl, Nat.le_of_ble_eq_true rfl⟩) (hp_preV (q := (RX6, TX6, 12)) [.int y3] hK hN hW hJ kx rfl rfl) rfl rfl hl.1 rfl (lv_room (Nat.le_of_ble_eq_true rfl)) dL_law_277 ⟨(by show 600000 + 0 ≤ 600000; omega), (by show 7302250 + 0 ≤ 7302250; omega)⟩) hJ (fun r4 g5 H locs hpg5 hJ => ?_)
  obtain ⟨Pg5, hkg5, f6⟩ := hpg5
  refine lv_pop hx hb dL_law_280 rfl ?_
  refine lv_aload_n hx hb dL_law_281 rfl (lv_at hl 2 rfl) ?_
  refine lv_aload_n hx hb dL_law_282 rfl (lv_at hl 0 rfl) ?_
  refine lv_iload_n hx hb dL_law_283 rfl (lv_at hl 3 rfl) ?_
  refine hq_iconst hx hb dL_law_284 (by decide) (by decide) (fun z7 ez7 => ?_)
  refine hq_iadd hx hb dL_law_285 (by omega) (by omega) (fun w8 ew8 => ?_)
  refine va_sld hx hb hX hbl hbA hJ.2 (hi_in (by omega) (by omega)) dL_law_286 ?_
  refine lv_topi (fun y9 fy9 => ?_)
  have ey9 : y9 = xs (k + 1) := by rw [fy9, show w8.toNatClampNeg = k + 1 by have := hi_cl (x := w8) (by omega); omega]
  have qy9 : y3 = y9 := by rw [ey3, ey9]
  subst qy9
  refine hp_calli (va_runV (As := [.int y3]) (rest := []) ⟨hx, hb, hml, hown, hts⟩ (c_X7_tick l dC dI dA κ B g5 mo km y3 hkg5) (cwV 1 hts gL_law_X7_tick rfl rfl rfl (by decide +kernel) ⟨Nat.le_of_ble_eq_true rfl, Nat.le_of_ble_eq_true rfl⟩) (hp_preV (q := (RX7, TX7, 24)) [.int y3] hK hN hW hJ km rfl rfl) rfl rfl hl.1 rfl (lv_room (Nat.le_of_ble_eq_true rfl)) dL_law_287 ⟨(by show 600000 + 0 ≤ 600000; omega), (by show 7302250 + 0 ≤ 7302250; omega)⟩) hJ (fun r10 g11 H locs hpg11 hJ => ?_)
  obtain ⟨Pg11, hkg11, f12⟩ := hpg11
  refine lv_pop hx hb dL_law_290 rfl ?_
  have t1 : g5 11 1 = g 11 1 := Pg5 11 1 rfl
  have t2 : g11 1 1 = g5 1 1 := Pg11 1 1 rfl
  have t3 : g5 1 1 = g 1 1 := Pg5 1 1 rfl
  have t4 : g11 11 1 = g5 11 1 := Pg11 11 1 rfl
  have u1 : ∀ j : Nat, g5 20 j = g 20 j := fun j => Pg5 20 j rfl
  have hup2 : ∀ j : Nat, j < 4 → g11 (5 + j) 0 = g11 20 j := fun j hj => by
    rw [Pg11 (5 + j) 0 (hx_mM _ _ (hx_M5 hj)), Pg5 (5 + j) 0 (hx_c50 hj), Pg11 20 j rfl, u1 j]
    exact hup j hj
  have htc2 : g11 1 1 = g11 11 1 := by omega
  refine lv_goto (tgt := 462) hx hb dL_law_291 (by decide) ?_
  exact nxt g11 _ _ ls hkg11 htc2 hup2 hJ (lv_sub hl [0, 1, 2, 3] rfl)
set_option maxRecDepth 100000 in
set_option maxHeartbeats 8000000 in
theorem law_about {p : Program} {l : Launch} {e : Env} {s : State} {m : MethodId} {below : List Frame} {meth : Method} {c : Code} {dC : Nat → ClassId} {dI : Nat → Nat → Nat} {dA : Nat → ClassId} {κ : Nat → Nat} {B b L x mo k : Nat} {xs : Nat → Int32} {v : Int32} {g : Nat → Nat → Int} {H : Heap} {locs : List Loc} {ls : Array Slot} (hL : L ≤ 2048) (hx : p.tables.exec = Jvm.exec) (hb : c.code = cL_law) (hml : c.maxLocals = 4) (hown : s.vm.findClass RL = some m.cls) (hts : ∀ w ∈ wsL_law, w.before #[Value.ref b] s = true) (hX : va_X b L xs s s.heap) (hbl : b < s.heap.size) (hbA : ¬ hp_A B b) (hK : va_K (dC, dI) vwCl (hp_ty dA) s) (hN : hp_N s) (hW : hp_W κ B) (kx : κ x = 1) (km : κ mo = 11) (hv : v.toInt = (k : Int)) (hkL : k + 4 ≤ L) (hkg : hg_k g) (htc : g 1 1 = g 11 1) (hup : ∀ j : Nat, j < 4 → g (5 + j) 0 = g 20 j) (hJ : hp_J dC dI dA κ B g s.heap H locs) (hl : lv_has ls 4 [(0, .ref b), (1, .ref x), (2, .ref mo), (3, .int v)])
    (nxt : ∀ (g' : Nat → Nat → Int) (H : Heap) (locs : List Loc) (ls : Array Slot), hg_k g' → g' 1 1 = g' 11 1 → (∀ j : Nat, j < 4 → g' (5 + j) 0 = g' 20 j) → hp_J dC dI dA κ B g' s.heap H locs → lv_has ls 4 [(0, .ref b), (1, .ref x), (2, .ref mo), (3, .int v)] → W p l e room_1 s m #[Value.ref b] below meth c H locs 600000 7302250 (lw_Z below #[Value.ref b] s) (F0 m 462 ls [])) : W p l e room_1 s m #[Value.ref b] below meth c H locs 600000 7302250 (lw_Z below #[Value.ref b] s) (F0 m 294 ls []) := by
  refine lv_aload_n hx hb dL_law_294 rfl (lv_at hl 1 rfl) ?_
  refine lv_aload_n hx hb dL_law_295 rfl (lv_at hl 0 rfl) ?_
  refine lv_iload_n hx hb dL_law_296 rfl (lv_at hl 3 rfl) ?_
  refine hq_iconst hx hb dL_law_297 (by decide) (by decide) (fun z1 ez1 => ?_)
  refine hq_iadd hx hb dL_law_298 (by omega) (by omega) (fun w2 ew2 => ?_)
  refine va_sld hx hb hX hbl hbA hJ.2 (hi_in (by omega) (by omega)) dL_law_299 ?_
  refine lv_topi (fun y3 fy3 => ?_)
  have ey3 : y3 = xs (k + 1) := by rw [fy3, show w2.toNatClampNeg = k + 1 by have := hi_cl (x := w2) (by omega); omega]
  refine lv_aload_n hx hb dL_law_300 rfl (lv_at hl 0 rfl) ?_
  refine lv_iload_n hx hb dL_law_301 rfl (lv_at hl 3 rfl) ?_
  refine hq_iconst hx hb dL_law_302 (by decide) (by decide) (fun z4 ez4 => ?_)
  refine hq_iadd hx hb dL_law_303 (by omega) (by omega) (fun w5 ew5 => ?_)
  refine va_sld hx hb hX hbl hbA hJ.2 (hi_in (by omega) (by omega)) dL_law_304 ?_
  refine lv_topi (fun y6 fy6 => ?_)
  have ey6 : y6 = xs (k + 2) := by rw [fy6, show w5.toNatClampNeg = k + 2 by have := hi_cl (x := w5) (by omega); omega]
  refine hp_calli (va_runV (As := [.int y3, .int y6]) (rest := []) ⟨hx, hb, hml, hown, hts⟩ (c_X6_about l dC dI dA κ B g x kx y3 y6 hkg) (cwV 2 hts gL_law_X6_about rfl rfl rfl (by decide +kernel) ⟨Nat.le_of_ble_eq_true rfl, Nat.le_of_ble_eq_true rfl⟩) (hp_preV (q := (RX6, TX6, 12)) [.int y3, .int y6] hK hN hW hJ kx rfl rfl) rfl rfl hl.1 rfl (lv_room (Nat.le_of_ble_eq_true rfl)) dL_law_305 ⟨(by show 600000 + 0 ≤ 600000; omega), (by show 7302250 + 0 ≤ 7302250; omega)⟩) hJ (fun r7 g8 H locs hpg8 hJ => ?_)
  subst hpg8
  refine lv_pop hx hb dL_law_308 rfl ?_
  refine lv_aload_n hx hb dL_law_309 rfl (lv_at hl 2 rfl) ?_
  refine lv_aload_n hx hb dL_law_310 rfl (lv_at hl 0 rfl) ?_
  refine lv_iload_n hx hb dL_law_311 rfl (lv_at hl 3 rfl) ?_
  refine hq_iconst hx hb dL_law_312 (by decide) (by decide) (fun z10 ez10 => ?_)
  refine hq_iadd hx hb dL_law_313 (by omega) (by omega) (fun w11 ew11 => ?_)
  refine va_sld hx hb hX hbl hbA hJ.2 (hi_in (by omega) (by omega)) dL_law_314 ?_
  refine lv_topi (fun y12 fy12 => ?_)
  have ey12 : y12 = xs (k + 1) := by rw [fy12, show w11.toNatClampNeg = k + 1 by have := hi_cl (x := w11) (by omega); omega]
  refine lv_aload_n hx hb dL_law_315 rfl (lv_at hl 0 rfl) ?_
  refine lv_iload_n hx hb dL_law_316 rfl (lv_at hl 3 rfl) ?_
  refine hq_iconst hx hb dL_law_317 (by decide) (by decide) (fun z13 ez13 => ?_)
  refine hq_iadd hx hb dL_law_318 (by omega) (by omega) (fun w14 ew14 => ?_)
  refine va_sld hx hb hX hbl hbA hJ.2 (hi_in (by omega) (by omega)) dL_law_319 ?_
  refine lv_topi (fun y15 fy15 => ?_)
  have ey15 : y15 = xs (k + 2) := by rw [fy15, show w14.toNatClampNeg = k + 2 by have := hi_cl (x := w14) (by omega); omega]
  have qy12 : y3 = y12 := by rw [ey3, ey12]
  subst qy12
  have qy15 : y6 = y15 := by rw [ey6, ey15]
  subst qy15
  refine hp_calli (va_runV (As := [.int y3, .int y6]) (rest := []) ⟨hx, hb, hml, hown, hts⟩ (c_X7_about l dC dI dA κ B g mo km y3 y6 hkg) (cwV 2 hts gL_law_X7_about rfl rfl rfl (by decide +kernel) ⟨Nat.le_of_ble_eq_true rfl, Nat.le_of_ble_eq_true rfl⟩) (hp_preV (q := (RX7, TX7, 24)) [.int y3, .int y6] hK hN hW hJ km rfl rfl) rfl rfl hl.1 rfl (lv_room (Nat.le_of_ble_eq_true rfl)) dL_law_320 ⟨(by show 600000 + 0 ≤ 600000; omega), (by show 7302250 + 0 ≤ 7302250; omega)⟩) hJ (fun r16 g17 H locs hpg17 hJ => ?_)
  subst hpg17
  refine lv_pop hx hb dL_law_323 rfl ?_
  refine lv_goto (tgt := 462) hx hb dL_law_324 (by decide) ?_
  exact nxt g _ _ ls hkg htc hup hJ (lv_sub hl [0, 1, 2, 3] rfl)
set_option maxRecDepth 100000 in
set_option maxHeartbeats 8000000 in
theorem law_count {p : Program} {l : Launch} {e : Env} {s : State} {m : MethodId} {below : List Frame} {meth : Method} {c : Code} {dC : Nat → ClassId} {dI : Nat → Nat → Nat} {dA : Nat → ClassId} {κ : Nat → Nat} {B b L x mo k : Nat} {xs : Nat → Int32} {v : Int32} {g : Nat → Nat → Int} {H : Heap} {locs : List Loc} {ls : Array Slot} (hL : L ≤ 2048) (hx : p.tables.exec = Jvm.exec) (hb : c.code = cL_law) (hml : c.maxLocals = 4) (hown : s.vm.findClass RL = some m.cls) (hts : ∀ w ∈ wsL_law, w.before #[Value.ref b] s = true) (hX : va_X b L xs s s.heap) (hbl : b < s.heap.size) (hbA : ¬ hp_A B b) (hK : va_K (dC, dI) vwCl (hp_ty dA) s) (hN : hp_N s) (hW : hp_W κ B) (kx : κ x = 1) (km : κ mo = 11) (hv : v.toInt = (k : Int)) (hkL : k + 4 ≤ L) (hkg : hg_k g) (htc : g 1 1 = g 11 1) (hup : ∀ j : Nat, j < 4 → g (5 + j) 0 = g 20 j) (hJ : hp_J dC dI dA κ B g s.heap H locs) (hl : lv_has ls 4 [(0, .ref b), (1, .ref x), (2, .ref mo), (3, .int v)])
    (nxt : ∀ (g' : Nat → Nat → Int) (H : Heap) (locs : List Loc) (ls : Array Slot), hg_k g' → g' 1 1 = g' 11 1 → (∀ j : Nat, j < 4 → g' (5 + j) 0 = g' 20 j) → hp_J dC dI dA κ B g' s.heap H locs → lv_has ls 4 [(0, .ref b), (1, .ref x), (2, .ref mo), (3, .int v)] → W p l e room_1 s m #[Value.ref b] below meth c H locs 600000 7302250 (lw_Z below #[Value.ref b] s) (F0 m 462 ls [])) : W p l e room_1 s m #[Value.ref b] below meth c H locs 600000 7302250 (lw_Z below #[Value.ref b] s) (F0 m 327 ls []) := by
  refine lv_aload_n hx hb dL_law_327 rfl (lv_at hl 1 rfl) ?_
  refine lv_aload_n hx hb dL_law_328 rfl (lv_at hl 0 rfl) ?_
  refine lv_iload_n hx hb dL_law_329 rfl (lv_at hl 3 rfl) ?_
  refine hq_iconst hx hb dL_law_330 (by decide) (by decide) (fun z1 ez1 => ?_)
  refine hq_iadd hx hb dL_law_331 (by omega) (by omega) (fun w2 ew2 => ?_)
  refine va_sld hx hb hX hbl hbA hJ.2 (hi_in (by omega) (by omega)) dL_law_332 ?_
  refine lv_topi (fun y3 fy3 => ?_)
  have ey3 : y3 = xs (k + 1) := by rw [fy3, show w2.toNatClampNeg = k + 1 by have := hi_cl (x := w2) (by omega); omega]
  refine hp_calli (va_runV (As := [.int y3]) (rest := []) ⟨hx, hb, hml, hown, hts⟩ (c_X6_count l dC dI dA κ B g x kx y3 hkg) (cwV 1 hts gL_law_X6_count rfl rfl rfl (by decide +kernel) ⟨Nat.le_of_ble_eq_true rfl, Nat.le_of_ble_eq_true rfl⟩) (hp_preV (q := (RX6, TX6, 12)) [.int y3] hK hN hW hJ kx rfl rfl) rfl rfl hl.1 rfl (lv_room (Nat.le_of_ble_eq_true rfl)) dL_law_333 ⟨(by show 600000 + 0 ≤ 600000; omega), (by show 7302250 + 0 ≤ 7302250; omega)⟩) hJ (fun r4 g5 H locs hpg5 hJ => ?_)
  subst hpg5
  refine lv_pop hx hb dL_law_336 rfl ?_
  refine lv_aload_n hx hb dL_law_337 rfl (lv_at hl 2 rfl) ?_
  refine lv_aload_n hx hb dL_law_338 rfl (lv_at hl 0 rfl) ?_
  refine lv_iload_n hx hb dL_law_339 rfl (lv_at hl 3 rfl) ?_
  refine hq_iconst hx hb dL_law_340 (by decide) (by decide) (fun z7 ez7 => ?_)
  refine hq_iadd hx hb dL_law_341 (by omega) (by omega) (fun w8 ew8 => ?_)
  refine va_sld hx hb hX hbl hbA hJ.2 (hi_in (by omega) (by omega)) dL_law_342 ?_
  refine lv_topi (fun y9 fy9 => ?_)
  have ey9 : y9 = xs (k + 1) := by rw [fy9, show w8.toNatClampNeg = k + 1 by have := hi_cl (x := w8) (by omega); omega]
  have qy9 : y3 = y9 := by rw [ey3, ey9]
  subst qy9
  refine hp_calli (va_runV (As := [.int y3]) (rest := []) ⟨hx, hb, hml, hown, hts⟩ (c_X7_count l dC dI dA κ B g mo km y3 hkg) (cwV 1 hts gL_law_X7_count rfl rfl rfl (by decide +kernel) ⟨Nat.le_of_ble_eq_true rfl, Nat.le_of_ble_eq_true rfl⟩) (hp_preV (q := (RX7, TX7, 24)) [.int y3] hK hN hW hJ km rfl rfl) rfl rfl hl.1 rfl (lv_room (Nat.le_of_ble_eq_true rfl)) dL_law_343 ⟨(by show 600000 + 0 ≤ 600000; omega), (by show 7302250 + 0 ≤ 7302250; omega)⟩) hJ (fun r10 g11 H locs hpg11 hJ => ?_)
  subst hpg11
  refine lv_pop hx hb dL_law_346 rfl ?_
  refine lv_goto (tgt := 462) hx hb dL_law_347 (by decide) ?_
  exact nxt g _ _ ls hkg htc hup hJ (lv_sub hl [0, 1, 2, 3] rfl)
set_option maxRecDepth 100000 in
set_option maxHeartbeats 8000000 in
theorem law_sent {p : Program} {l : Launch} {e : Env} {s : State} {m : MethodId} {below : List Frame} {meth : Method} {c : Code} {dC : Nat → ClassId} {dI : Nat → Nat → Nat} {dA : Nat → ClassId} {κ : Nat → Nat} {B b L x mo k : Nat} {xs : Nat → Int32} {v : Int32} {g : Nat → Nat → Int} {H : Heap} {locs : List Loc} {ls : Array Slot} (hL : L ≤ 2048) (hx : p.tables.exec = Jvm.exec) (hb : c.code = cL_law) (hml : c.maxLocals = 4) (hown : s.vm.findClass RL = some m.cls) (hts : ∀ w ∈ wsL_law, w.before #[Value.ref b] s = true) (hX : va_X b L xs s s.heap) (hbl : b < s.heap.size) (hbA : ¬ hp_A B b) (hK : va_K (dC, dI) vwCl (hp_ty dA) s) (hN : hp_N s) (hW : hp_W κ B) (kx : κ x = 1) (km : κ mo = 11) (hv : v.toInt = (k : Int)) (hkL : k + 4 ≤ L) (hkg : hg_k g) (htc : g 1 1 = g 11 1) (hup : ∀ j : Nat, j < 4 → g (5 + j) 0 = g 20 j) (hJ : hp_J dC dI dA κ B g s.heap H locs) (hl : lv_has ls 4 [(0, .ref b), (1, .ref x), (2, .ref mo), (3, .int v)])
    (nxt : ∀ (g' : Nat → Nat → Int) (H : Heap) (locs : List Loc) (ls : Array Slot), hg_k g' → g' 1 1 = g' 11 1 → (∀ j : Nat, j < 4 → g' (5 + j) 0 = g' 20 j) → hp_J dC dI dA κ B g' s.heap H locs → lv_has ls 4 [(0, .ref b), (1, .ref x), (2, .ref mo), (3, .int v)] → W p l e room_1 s m #[Value.ref b] below meth c H locs 600000 7302250 (lw_Z below #[Value.ref b] s) (F0 m 462 ls [])) : W p l e room_1 s m #[Value.ref b] below meth c H locs 600000 7302250 (lw_Z below #[Value.ref b] s) (F0 m 350 ls []) := by
  refine lv_aload_n hx hb dL_law_350 rfl (lv_at hl 1 rfl) ?_
  refine lv_aload_n hx hb dL_law_351 rfl (lv_at hl 0 rfl) ?_
  refine lv_iload_n hx hb dL_law_352 rfl (lv_at hl 3 rfl) ?_
  refine hq_iconst hx hb dL_law_353 (by decide) (by decide) (fun z1 ez1 => ?_)
  refine hq_iadd hx hb dL_law_354 (by omega) (by omega) (fun w2 ew2 => ?_)
  refine va_sld hx hb hX hbl hbA hJ.2 (hi_in (by omega) (by omega)) dL_law_355 ?_
  refine lv_topi (fun y3 fy3 => ?_)
  have ey3 : y3 = xs (k + 1) := by rw [fy3, show w2.toNatClampNeg = k + 1 by have := hi_cl (x := w2) (by omega); omega]
  refine hp_calli (va_runV (As := [.int y3]) (rest := []) ⟨hx, hb, hml, hown, hts⟩ (c_X6_sent l dC dI dA κ B g x kx y3 hkg) (cwV 1 hts gL_law_X6_sent rfl rfl rfl (by decide +kernel) ⟨Nat.le_of_ble_eq_true rfl, Nat.le_of_ble_eq_true rfl⟩) (hp_preV (q := (RX6, TX6, 12)) [.int y3] hK hN hW hJ kx rfl rfl) rfl rfl hl.1 rfl (lv_room (Nat.le_of_ble_eq_true rfl)) dL_law_356 ⟨(by show 600000 + 0 ≤ 600000; omega), (by show 7302250 + 0 ≤ 7302250; omega)⟩) hJ (fun r4 g5 H locs hpg5 hJ => ?_)
  obtain ⟨eg5, f6⟩ := hpg5
  subst eg5
  refine lv_pop hx hb dL_law_359 rfl ?_
  refine lv_aload_n hx hb dL_law_360 rfl (lv_at hl 2 rfl) ?_
  refine lv_aload_n hx hb dL_law_361 rfl (lv_at hl 0 rfl) ?_
  refine lv_iload_n hx hb dL_law_362 rfl (lv_at hl 3 rfl) ?_
  refine hq_iconst hx hb dL_law_363 (by decide) (by decide) (fun z7 ez7 => ?_)
  refine hq_iadd hx hb dL_law_364 (by omega) (by omega) (fun w8 ew8 => ?_)
  refine va_sld hx hb hX hbl hbA hJ.2 (hi_in (by omega) (by omega)) dL_law_365 ?_
  refine lv_topi (fun y9 fy9 => ?_)
  have ey9 : y9 = xs (k + 1) := by rw [fy9, show w8.toNatClampNeg = k + 1 by have := hi_cl (x := w8) (by omega); omega]
  have qy9 : y3 = y9 := by rw [ey3, ey9]
  subst qy9
  refine hp_calli (va_runV (As := [.int y3]) (rest := []) ⟨hx, hb, hml, hown, hts⟩ (c_X7_sent l dC dI dA κ B g mo km y3 hkg) (cwV 1 hts gL_law_X7_sent rfl rfl rfl (by decide +kernel) ⟨Nat.le_of_ble_eq_true rfl, Nat.le_of_ble_eq_true rfl⟩) (hp_preV (q := (RX7, TX7, 24)) [.int y3] hK hN hW hJ km rfl rfl) rfl rfl hl.1 rfl (lv_room (Nat.le_of_ble_eq_true rfl)) dL_law_366 ⟨(by show 600000 + 0 ≤ 600000; omega), (by show 7302250 + 0 ≤ 7302250; omega)⟩) hJ (fun r10 g11 H locs hpg11 hJ => ?_)
  obtain ⟨eg11, f12⟩ := hpg11
  subst eg11
  refine lv_pop hx hb dL_law_369 rfl ?_
  refine lv_goto (tgt := 462) hx hb dL_law_370 (by decide) ?_
  exact nxt g _ _ ls hkg htc hup hJ (lv_sub hl [0, 1, 2, 3] rfl)
set_option maxRecDepth 100000 in
set_option maxHeartbeats 8000000 in
theorem law_neighbor {p : Program} {l : Launch} {e : Env} {s : State} {m : MethodId} {below : List Frame} {meth : Method} {c : Code} {dC : Nat → ClassId} {dI : Nat → Nat → Nat} {dA : Nat → ClassId} {κ : Nat → Nat} {B b L x mo k : Nat} {xs : Nat → Int32} {v : Int32} {g : Nat → Nat → Int} {H : Heap} {locs : List Loc} {ls : Array Slot} (hL : L ≤ 2048) (hx : p.tables.exec = Jvm.exec) (hb : c.code = cL_law) (hml : c.maxLocals = 4) (hown : s.vm.findClass RL = some m.cls) (hts : ∀ w ∈ wsL_law, w.before #[Value.ref b] s = true) (hX : va_X b L xs s s.heap) (hbl : b < s.heap.size) (hbA : ¬ hp_A B b) (hK : va_K (dC, dI) vwCl (hp_ty dA) s) (hN : hp_N s) (hW : hp_W κ B) (kx : κ x = 1) (km : κ mo = 11) (hv : v.toInt = (k : Int)) (hkL : k + 4 ≤ L) (hkg : hg_k g) (htc : g 1 1 = g 11 1) (hup : ∀ j : Nat, j < 4 → g (5 + j) 0 = g 20 j) (hJ : hp_J dC dI dA κ B g s.heap H locs) (hl : lv_has ls 4 [(0, .ref b), (1, .ref x), (2, .ref mo), (3, .int v)])
    (nxt : ∀ (g' : Nat → Nat → Int) (H : Heap) (locs : List Loc) (ls : Array Slot), hg_k g' → g' 1 1 = g' 11 1 → (∀ j : Nat, j < 4 → g' (5 + j) 0 = g' 20 j) → hp_J dC dI dA κ B g' s.heap H locs → lv_has ls 4 [(0, .ref b), (1, .ref x), (2, .ref mo), (3, .int v)] → W p l e room_1 s m #[Value.ref b] below meth c H locs 600000 7302250 (lw_Z below #[Value.ref b] s) (F0 m 462 ls [])) : W p l e room_1 s m #[Value.ref b] below meth c H locs 600000 7302250 (lw_Z below #[Value.ref b] s) (F0 m 373 ls []) := by
  refine lv_aload_n hx hb dL_law_373 rfl (lv_at hl 1 rfl) ?_
  refine lv_aload_n hx hb dL_law_374 rfl (lv_at hl 0 rfl) ?_
  refine lv_iload_n hx hb dL_law_375 rfl (lv_at hl 3 rfl) ?_
  refine hq_iconst hx hb dL_law_376 (by decide) (by decide) (fun z1 ez1 => ?_)
  refine hq_iadd hx hb dL_law_377 (by omega) (by omega) (fun w2 ew2 => ?_)
  refine va_sld hx hb hX hbl hbA hJ.2 (hi_in (by omega) (by omega)) dL_law_378 ?_
  refine lv_topi (fun y3 fy3 => ?_)
  have ey3 : y3 = xs (k + 1) := by rw [fy3, show w2.toNatClampNeg = k + 1 by have := hi_cl (x := w2) (by omega); omega]
  refine lv_aload_n hx hb dL_law_379 rfl (lv_at hl 0 rfl) ?_
  refine lv_iload_n hx hb dL_law_380 rfl (lv_at hl 3 rfl) ?_
  refine hq_iconst hx hb dL_law_381 (by decide) (by decide) (fun z4 ez4 => ?_)
  refine hq_iadd hx hb dL_law_382 (by omega) (by omega) (fun w5 ew5 => ?_)
  refine va_sld hx hb hX hbl hbA hJ.2 (hi_in (by omega) (by omega)) dL_law_383 ?_
  refine lv_topi (fun y6 fy6 => ?_)
  have ey6 : y6 = xs (k + 2) := by rw [fy6, show w5.toNatClampNeg = k + 2 by have := hi_cl (x := w5) (by omega); omega]
  refine hp_calli (va_runV (As := [.int y3, .int y6]) (rest := []) ⟨hx, hb, hml, hown, hts⟩ (c_X6_neighbor l dC dI dA κ B g x kx y3 y6 hkg) (cwV 2 hts gL_law_X6_neighbor rfl rfl rfl (by decide +kernel) ⟨Nat.le_of_ble_eq_true rfl, Nat.le_of_ble_eq_true rfl⟩) (hp_preV (q := (RX6, TX6, 12)) [.int y3, .int y6] hK hN hW hJ kx rfl rfl) rfl rfl hl.1 rfl (lv_room (Nat.le_of_ble_eq_true rfl)) dL_law_384 ⟨(by show 600000 + 0 ≤ 600000; omega), (by show 7302250 + 0 ≤ 7302250; omega)⟩) hJ (fun r7 g8 H locs hpg8 hJ => ?_)
  obtain ⟨eg8, f9⟩ := hpg8
  subst eg8
  refine lv_pop hx hb dL_law_387 rfl ?_
  refine lv_aload_n hx hb dL_law_388 rfl (lv_at hl 2 rfl) ?_
  refine lv_aload_n hx hb dL_law_389 rfl (lv_at hl 0 rfl) ?_
  refine lv_iload_n hx hb dL_law_390 rfl (lv_at hl 3 rfl) ?_
  refine hq_iconst hx hb dL_law_391 (by decide) (by decide) (fun z10 ez10 => ?_)
  refine hq_iadd hx hb dL_law_392 (by omega) (by omega) (fun w11 ew11 => ?_)
  refine va_sld hx hb hX hbl hbA hJ.2 (hi_in (by omega) (by omega)) dL_law_393 ?_
  refine lv_topi (fun y12 fy12 => ?_)
  have ey12 : y12 = xs (k + 1) := by rw [fy12, show w11.toNatClampNeg = k + 1 by have := hi_cl (x := w11) (by omega); omega]
  refine lv_aload_n hx hb dL_law_394 rfl (lv_at hl 0 rfl) ?_
  refine lv_iload_n hx hb dL_law_395 rfl (lv_at hl 3 rfl) ?_
  refine hq_iconst hx hb dL_law_396 (by decide) (by decide) (fun z13 ez13 => ?_)
  refine hq_iadd hx hb dL_law_397 (by omega) (by omega) (fun w14 ew14 => ?_)
  refine va_sld hx hb hX hbl hbA hJ.2 (hi_in (by omega) (by omega)) dL_law_398 ?_
  refine lv_topi (fun y15 fy15 => ?_)
  have ey15 : y15 = xs (k + 2) := by rw [fy15, show w14.toNatClampNeg = k + 2 by have := hi_cl (x := w14) (by omega); omega]
  have qy12 : y3 = y12 := by rw [ey3, ey12]
  subst qy12
  have qy15 : y6 = y15 := by rw [ey6, ey15]
  subst qy15
  refine hp_calli (va_runV (As := [.int y3, .int y6]) (rest := []) ⟨hx, hb, hml, hown, hts⟩ (c_X7_neighbor l dC dI dA κ B g mo km y3 y6 hkg) (cwV 2 hts gL_law_X7_neighbor rfl rfl rfl (by decide +kernel) ⟨Nat.le_of_ble_eq_true rfl, Nat.le_of_ble_eq_true rfl⟩) (hp_preV (q := (RX7, TX7, 24)) [.int y3, .int y6] hK hN hW hJ km rfl rfl) rfl rfl hl.1 rfl (lv_room (Nat.le_of_ble_eq_true rfl)) dL_law_399 ⟨(by show 600000 + 0 ≤ 600000; omega), (by show 7302250 + 0 ≤ 7302250; omega)⟩) hJ (fun r16 g17 H locs hpg17 hJ => ?_)
  obtain ⟨eg17, f18⟩ := hpg17
  subst eg17
  refine lv_pop hx hb dL_law_402 rfl ?_
  refine lv_goto (tgt := 462) hx hb dL_law_403 (by decide) ?_
  exact nxt g _ _ ls hkg htc hup hJ (lv_sub hl [0, 1, 2, 3] rfl)
set_option maxRecDepth 100000 in
set_option maxHeartbeats 8000000 in
theorem law_content {p : Program} {l : Launch} {e : Env} {s : State} {m : MethodId} {below : List Frame} {meth : Method} {c : Code} {dC : Nat → ClassId} {dI : Nat → Nat → Nat} {dA : Nat → ClassId} {κ : Nat → Nat} {B b L x mo k : Nat} {xs : Nat → Int32} {v : Int32} {g : Nat → Nat → Int} {H : Heap} {locs : List Loc} {ls : Array Slot} (hL : L ≤ 2048) (hx : p.tables.exec = Jvm.exec) (hb : c.code = cL_law) (hml : c.maxLocals = 4) (hown : s.vm.findClass RL = some m.cls) (hts : ∀ w ∈ wsL_law, w.before #[Value.ref b] s = true) (hX : va_X b L xs s s.heap) (hbl : b < s.heap.size) (hbA : ¬ hp_A B b) (hK : va_K (dC, dI) vwCl (hp_ty dA) s) (hN : hp_N s) (hW : hp_W κ B) (kx : κ x = 1) (km : κ mo = 11) (hv : v.toInt = (k : Int)) (hkL : k + 4 ≤ L) (hkg : hg_k g) (htc : g 1 1 = g 11 1) (hup : ∀ j : Nat, j < 4 → g (5 + j) 0 = g 20 j) (hJ : hp_J dC dI dA κ B g s.heap H locs) (hl : lv_has ls 4 [(0, .ref b), (1, .ref x), (2, .ref mo), (3, .int v)])
    (nxt : ∀ (g' : Nat → Nat → Int) (H : Heap) (locs : List Loc) (ls : Array Slot), hg_k g' → g' 1 1 = g' 11 1 → (∀ j : Nat, j < 4 → g' (5 + j) 0 = g' 20 j) → hp_J dC dI dA κ B g' s.heap H locs → lv_has ls 4 [(0, .ref b), (1, .ref x), (2, .ref mo), (3, .int v)] → W p l e room_1 s m #[Value.ref b] below meth c H locs 600000 7302250 (lw_Z below #[Value.ref b] s) (F0 m 462 ls [])) : W p l e room_1 s m #[Value.ref b] below meth c H locs 600000 7302250 (lw_Z below #[Value.ref b] s) (F0 m 406 ls []) := by
  refine lv_aload_n hx hb dL_law_406 rfl (lv_at hl 1 rfl) ?_
  refine lv_aload_n hx hb dL_law_407 rfl (lv_at hl 0 rfl) ?_
  refine lv_iload_n hx hb dL_law_408 rfl (lv_at hl 3 rfl) ?_
  refine hq_iconst hx hb dL_law_409 (by decide) (by decide) (fun z1 ez1 => ?_)
  refine hq_iadd hx hb dL_law_410 (by omega) (by omega) (fun w2 ew2 => ?_)
  refine va_sld hx hb hX hbl hbA hJ.2 (hi_in (by omega) (by omega)) dL_law_411 ?_
  refine lv_topi (fun y3 fy3 => ?_)
  have ey3 : y3 = xs (k + 1) := by rw [fy3, show w2.toNatClampNeg = k + 1 by have := hi_cl (x := w2) (by omega); omega]
  refine lv_aload_n hx hb dL_law_412 rfl (lv_at hl 0 rfl) ?_
  refine lv_iload_n hx hb dL_law_413 rfl (lv_at hl 3 rfl) ?_
  refine hq_iconst hx hb dL_law_414 (by decide) (by decide) (fun z4 ez4 => ?_)
  refine hq_iadd hx hb dL_law_415 (by omega) (by omega) (fun w5 ew5 => ?_)
  refine va_sld hx hb hX hbl hbA hJ.2 (hi_in (by omega) (by omega)) dL_law_416 ?_
  refine lv_topi (fun y6 fy6 => ?_)
  have ey6 : y6 = xs (k + 2) := by rw [fy6, show w5.toNatClampNeg = k + 2 by have := hi_cl (x := w5) (by omega); omega]
  refine lv_aload_n hx hb dL_law_417 rfl (lv_at hl 0 rfl) ?_
  refine lv_iload_n hx hb dL_law_418 rfl (lv_at hl 3 rfl) ?_
  refine hq_iconst hx hb dL_law_419 (by decide) (by decide) (fun z7 ez7 => ?_)
  refine hq_iadd hx hb dL_law_420 (by omega) (by omega) (fun w8 ew8 => ?_)
  refine va_sld hx hb hX hbl hbA hJ.2 (hi_in (by omega) (by omega)) dL_law_421 ?_
  refine lv_topi (fun y9 fy9 => ?_)
  have ey9 : y9 = xs (k + 3) := by rw [fy9, show w8.toNatClampNeg = k + 3 by have := hi_cl (x := w8) (by omega); omega]
  refine hp_calli (va_runV (As := [.int y3, .int y6, .int y9]) (rest := []) ⟨hx, hb, hml, hown, hts⟩ (c_X6_content l dC dI dA κ B g x kx y3 y6 y9 hkg) (cwV 3 hts gL_law_X6_content rfl rfl rfl (by decide +kernel) ⟨Nat.le_of_ble_eq_true rfl, Nat.le_of_ble_eq_true rfl⟩) (hp_preV (q := (RX6, TX6, 12)) [.int y3, .int y6, .int y9] hK hN hW hJ kx rfl rfl) rfl rfl hl.1 rfl (lv_room (Nat.le_of_ble_eq_true rfl)) dL_law_422 ⟨(by show 600000 + 0 ≤ 600000; omega), (by show 7302250 + 0 ≤ 7302250; omega)⟩) hJ (fun r10 g11 H locs hpg11 hJ => ?_)
  obtain ⟨eg11, f12⟩ := hpg11
  subst eg11
  refine lv_pop hx hb dL_law_425 rfl ?_
  refine lv_aload_n hx hb dL_law_426 rfl (lv_at hl 2 rfl) ?_
  refine lv_aload_n hx hb dL_law_427 rfl (lv_at hl 0 rfl) ?_
  refine lv_iload_n hx hb dL_law_428 rfl (lv_at hl 3 rfl) ?_
  refine hq_iconst hx hb dL_law_429 (by decide) (by decide) (fun z13 ez13 => ?_)
  refine hq_iadd hx hb dL_law_430 (by omega) (by omega) (fun w14 ew14 => ?_)
  refine va_sld hx hb hX hbl hbA hJ.2 (hi_in (by omega) (by omega)) dL_law_431 ?_
  refine lv_topi (fun y15 fy15 => ?_)
  have ey15 : y15 = xs (k + 1) := by rw [fy15, show w14.toNatClampNeg = k + 1 by have := hi_cl (x := w14) (by omega); omega]
  refine lv_aload_n hx hb dL_law_432 rfl (lv_at hl 0 rfl) ?_
  refine lv_iload_n hx hb dL_law_433 rfl (lv_at hl 3 rfl) ?_
  refine hq_iconst hx hb dL_law_434 (by decide) (by decide) (fun z16 ez16 => ?_)
  refine hq_iadd hx hb dL_law_435 (by omega) (by omega) (fun w17 ew17 => ?_)
  refine va_sld hx hb hX hbl hbA hJ.2 (hi_in (by omega) (by omega)) dL_law_436 ?_
  refine lv_topi (fun y18 fy18 => ?_)
  have ey18 : y18 = xs (k + 2) := by rw [fy18, show w17.toNatClampNeg = k + 2 by have := hi_cl (x := w17) (by omega); omega]
  refine lv_aload_n hx hb dL_law_437 rfl (lv_at hl 0 rfl) ?_
  refine lv_iload_n hx hb dL_law_438 rfl (lv_at hl 3 rfl) ?_
  refine hq_iconst hx hb dL_law_439 (by decide) (by decide) (fun z19 ez19 => ?_)
  refine hq_iadd hx hb dL_law_440 (by omega) (by omega) (fun w20 ew20 => ?_)
  refine va_sld hx hb hX hbl hbA hJ.2 (hi_in (by omega) (by omega)) dL_law_441 ?_
  refine lv_topi (fun y21 fy21 => ?_)
  have ey21 : y21 = xs (k + 3) := by rw [fy21, show w20.toNatClampNeg = k + 3 by have := hi_cl (x := w20) (by omega); omega]
  have qy15 : y3 = y15 := by rw [ey3, ey15]
  subst qy15
  have qy18 : y6 = y18 := by rw [ey6, ey18]
  subst qy18
  have qy21 : y9 = y21 := by rw [ey9, ey21]
  subst qy21
  refine hp_calli (va_runV (As := [.int y3, .int y6, .int y9]) (rest := []) ⟨hx, hb, hml, hown, hts⟩ (c_X7_content l dC dI dA κ B g mo km y3 y6 y9 hkg) (cwV 3 hts gL_law_X7_content rfl rfl rfl (by decide +kernel) ⟨Nat.le_of_ble_eq_true rfl, Nat.le_of_ble_eq_true rfl⟩) (hp_preV (q := (RX7, TX7, 24)) [.int y3, .int y6, .int y9] hK hN hW hJ km rfl rfl) rfl rfl hl.1 rfl (lv_room (Nat.le_of_ble_eq_true rfl)) dL_law_442 ⟨(by show 600000 + 0 ≤ 600000; omega), (by show 7302250 + 0 ≤ 7302250; omega)⟩) hJ (fun r22 g23 H locs hpg23 hJ => ?_)
  obtain ⟨eg23, f24⟩ := hpg23
  subst eg23
  refine lv_pop hx hb dL_law_445 rfl ?_
  refine lv_goto (tgt := 462) hx hb dL_law_446 (by decide) ?_
  exact nxt g _ _ ls hkg htc hup hJ (lv_sub hl [0, 1, 2, 3] rfl)
set_option maxRecDepth 100000 in
set_option maxHeartbeats 8000000 in
theorem law_check {p : Program} {l : Launch} {e : Env} {s : State} {m : MethodId} {below : List Frame} {meth : Method} {c : Code} {dC : Nat → ClassId} {dI : Nat → Nat → Nat} {dA : Nat → ClassId} {κ : Nat → Nat} {B b L x mo k : Nat} {xs : Nat → Int32} {v : Int32} {g : Nat → Nat → Int} {H : Heap} {locs : List Loc} {ls : Array Slot} (hL : L ≤ 2048) (hx : p.tables.exec = Jvm.exec) (hb : c.code = cL_law) (hml : c.maxLocals = 4) (hown : s.vm.findClass RL = some m.cls) (hts : ∀ w ∈ wsL_law, w.before #[Value.ref b] s = true) (hX : va_X b L xs s s.heap) (hbl : b < s.heap.size) (hbA : ¬ hp_A B b) (hK : va_K (dC, dI) vwCl (hp_ty dA) s) (hN : hp_N s) (hW : hp_W κ B) (kx : κ x = 1) (km : κ mo = 11) (hv : v.toInt = (k : Int)) (hkL : k + 4 ≤ L) (hkg : hg_k g) (htc : g 1 1 = g 11 1) (hup : ∀ j : Nat, j < 4 → g (5 + j) 0 = g 20 j) (hJ : hp_J dC dI dA κ B g s.heap H locs) (hl : lv_has ls 4 [(0, .ref b), (1, .ref x), (2, .ref mo), (3, .int v)])
    (nxt : ∀ (g' : Nat → Nat → Int) (H : Heap) (locs : List Loc) (ls : Array Slot), hg_k g' → g' 1 1 = g' 11 1 → (∀ j : Nat, j < 4 → g' (5 + j) 0 = g' 20 j) → hp_J dC dI dA κ B g' s.heap H locs → lv_has ls 4 [(0, .ref b), (1, .ref x), (2, .ref mo), (3, .int v)] → W p l e room_1 s m #[Value.ref b] below meth c H locs 600000 7302250 (lw_Z below #[Value.ref b] s) (F0 m 462 ls [])) : W p l e room_1 s m #[Value.ref b] below meth c H locs 600000 7302250 (lw_Z below #[Value.ref b] s) (F0 m 449 ls []) := by
  refine lv_aload_n hx hb dL_law_449 rfl (lv_at hl 1 rfl) ?_
  refine hp_calli (va_runV (As := []) (rest := []) ⟨hx, hb, hml, hown, hts⟩ (c_X6_check l dC dI dA κ B g x kx  hkg) (cwV 0 hts gL_law_X6_check rfl rfl rfl (by decide +kernel) ⟨Nat.le_of_ble_eq_true rfl, Nat.le_of_ble_eq_true rfl⟩) (hp_preV (q := (RX6, TX6, 12)) [] hK hN hW hJ kx rfl rfl) rfl rfl hl.1 rfl (lv_room (Nat.le_of_ble_eq_true rfl)) dL_law_450 ⟨(by show 600000 + 0 ≤ 600000; omega), (by show 7302250 + 0 ≤ 7302250; omega)⟩) hJ (fun r1 g2 H locs hpg2 hJ => ?_)
  obtain ⟨eg2, f3⟩ := hpg2
  subst eg2
  refine lv_pop hx hb dL_law_453 rfl ?_
  refine lv_aload_n hx hb dL_law_454 rfl (lv_at hl 2 rfl) ?_
  refine hp_calli (va_runV (As := []) (rest := []) ⟨hx, hb, hml, hown, hts⟩ (c_X7_check l dC dI dA κ B g mo km  hkg) (cwV 0 hts gL_law_X7_check rfl rfl rfl (by decide +kernel) ⟨Nat.le_of_ble_eq_true rfl, Nat.le_of_ble_eq_true rfl⟩) (hp_preV (q := (RX7, TX7, 24)) [] hK hN hW hJ km rfl rfl) rfl rfl hl.1 rfl (lv_room (Nat.le_of_ble_eq_true rfl)) dL_law_455 ⟨(by show 600000 + 0 ≤ 600000; omega), (by show 7302250 + 0 ≤ 7302250; omega)⟩) hJ (fun r4 g5 H locs hpg5 hJ => ?_)
  obtain ⟨eg5, f6⟩ := hpg5
  subst eg5
  refine lv_pop hx hb dL_law_458 rfl ?_
  refine lv_goto (tgt := 462) hx hb dL_law_459 (by decide) ?_
  exact nxt g _ _ ls hkg htc hup hJ (lv_sub hl [0, 1, 2, 3] rfl)
