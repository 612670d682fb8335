theorem hl_mono {L L' : List Nat} (h : (L.all fun x => decide (x ∈ L')) = true) {n : Nat} (hn : n ∈ L) : n ∈ L' := of_decide_eq_true (List.all_eq_true.mp h n hn)
theorem hl_new {L : List Nat} {n : Nat} (h : hk_new n) (hL : (([0, 2, 9, 13, 14, 16, 17] : List Nat).all fun x => decide (x ∈ L)) = true) : n ∈ L := by
  refine hl_mono hL ?_
  rcases h with h | h | h | h | h | h | h <;> rw [h] <;> decide
theorem hl_ne {L : List Nat} {n c : Nat} (hn : n ∈ L) (hc : (L.all fun x => decide (x ≠ c)) = true) : n ≠ c := of_decide_eq_true (List.all_eq_true.mp hc n hn)
theorem hl_48 {L : List Nat} {n : Nat} (hn : n ∈ L) (hc : (L.all fun x => decide (x < 40 ∨ 80 ≤ x)) = true) : n < 40 ∨ 80 ≤ n := of_decide_eq_true (p := n < 40 ∨ 80 ≤ n) (List.all_eq_true.mp hc n hn)
theorem hl_b {L : List Nat} {n i : Nat} (hi : i ≤ 4) (h1 : (L.all fun x => decide (x ≤ 17 ∧ x ≠ 11 ∧ x ≠ 1)) = true) (h2 : (L.all fun x => decide (x < 5 ∨ 8 < x)) = true) (hn : n ∈ L ∨ (5 ≤ n ∧ n < 5 + i)) : (n ≤ 17 ∧ n ≠ 11 ∧ n ≠ 1) ∧ (n < 5 ∨ 8 < n ∨ n < 5 + i) := by
  rcases hn with hn | hn
  · have a1 := of_decide_eq_true (p := n ≤ 17 ∧ n ≠ 11 ∧ n ≠ 1) (List.all_eq_true.mp h1 n hn)
    have a2 := of_decide_eq_true (p := n < 5 ∨ 8 < n) (List.all_eq_true.mp h2 n hn)
    omega
  · omega
theorem hl_rm {L L' : List Nat} {n c : Nat} (hn : n ∈ L) (hc : n ≠ c) (h : (L.all fun x => decide (x = c ∨ x ∈ L')) = true) : n ∈ L' := (of_decide_eq_true (p := n = c ∨ n ∈ L') (List.all_eq_true.mp h n hn)).elim (fun e => absurd e hc) id
theorem iX6_init_X6 : ∀ w ∈ wsX60, w ∈ wsX6_init := fun _ h => List.mem_cons_of_mem _ (List.mem_append_left _ (List.mem_append_left _ (List.mem_append_left _ (List.mem_append_left _ (List.mem_append_left _ (List.mem_append_left _ (List.mem_append_right _ h)))))))
theorem iX6_init_X0 : ∀ w ∈ wsX00, w ∈ wsX6_init := fun _ h => List.mem_cons_of_mem _ (List.mem_append_left _ (List.mem_append_left _ (List.mem_append_left _ (List.mem_append_left _ (List.mem_append_left _ (List.mem_append_right _ h))))))
theorem iX6_init_X3 : ∀ w ∈ wsX30, w ∈ wsX6_init := fun _ h => List.mem_cons_of_mem _ (List.mem_append_left _ (List.mem_append_left _ (List.mem_append_left _ (List.mem_append_left _ (List.mem_append_right _ h)))))
theorem iX6_init_X1 : ∀ w ∈ wsX10, w ∈ wsX6_init := fun _ h => List.mem_cons_of_mem _ (List.mem_append_left _ (List.mem_append_left _ (List.mem_append_left _ (List.mem_append_right _ h))))
theorem iX6_init_X5 : ∀ w ∈ wsX50, w ∈ wsX6_init := fun _ h => List.mem_cons_of_mem _ (List.mem_append_left _ (List.mem_append_left _ (List.mem_append_right _ h)))
theorem iX6_init_X4 : ∀ w ∈ wsX40, w ∈ wsX6_init := fun _ h => List.mem_cons_of_mem _ (List.mem_append_left _ (List.mem_append_right _ h))
theorem iX6_init_X2 : ∀ w ∈ wsX20, w ∈ wsX6_init := fun _ h => List.mem_cons_of_mem _ (List.mem_append_right _ h)
set_option maxRecDepth 100000 in
set_option maxHeartbeats 8000000 in
theorem lp_X6_init (l : Launch) {p : Program} {e : Env} {s : State} {m : MethodId} {below : List Frame} {meth : Method} {c : Code} {dC : Nat → ClassId} {dI : Nat → Nat → Nat} {dA : Nat → ClassId} {B : Nat} {g : Nat → Nat → Int} {h0 tF b20 : Nat} (hx : p.tables.exec = Jvm.exec) (hb : c.code = cX6_init) (hr : meth.sig.returnType = none) (hts : ∀ w ∈ wsX6_init, w.before ([Value.ref h0] : List Value).toArray s = true) (hown : s.vm.findClass RX6 = some m.cls) (hlocks : meth.locks = false) (hml : c.maxLocals = 2) (hK : va_K (dC, dI) vwCl (hp_ty dA) s) (hN : hp_N s) (hAO : va_AO RX4 s ∧ va_AO RX2 s) (hBz : B ≤ s.heap.size) (hZs : va_Z RX6 "FIRST_NAME" "[B" (.ref tF) (hp_A B) s s.heap) (hT : va_T .byte tF 2 (fun _ => .int 0) (hp_A B) s s.heap) (hg1 : ∀ k : Nat, g 1 k = 0) (hgp : ∀ a k : Nat, 5 ≤ a → a ≤ 8 → g a k = 0) : ∀ (n i : Nat) (v : Int32) (κi : Nat → Nat) (H : Heap) (locs : List Loc) (ls : Array Slot), i ≤ 4 → v.toInt = (i : Int) → 4 - i < n → κi h0 = 110 + i → κi b20 = 80 + i → (∀ a, a ≠ h0 → a ≠ b20 → (κi a ∈ ([0, 2, 3, 4, 9, 10, 12, 13, 14, 16, 17] : List Nat) ∨ (5 ≤ κi a ∧ κi a < 5 + i))) → hp_Z dC dI dA κi B g s.heap H locs → lv_has ls 2 [(0, .ref h0), (1, .int v)] → W p l e (headSpec wsX6_init ({ frames := 5, cells := 65, slots := 7268, locals := 104 } : Room)).room s m ([Value.ref h0] : List Value).toArray below meth c H locs (61 + i) (7244 + 6 * i) (MQ below (hp_QU dC dI dA B g (fun κ' => κ' h0 = 1 ∧ ∀ a, κ' a ≤ 17 ∧ κ' a ≠ 11)) ([Value.ref h0] : List Value).toArray s 65 7268 (hp_A B)) (F0 m 83 ls [])  := by
  intro n
  induction n with
  | zero => intro i v κi H locs ls h1 h2 h3; exact absurd h3 (by omega)
  | succ n ih =>
    intro i v κi H locs ls hi hv hn kh kb hm hZ hl
    have hub : ∀ a, κi a = 80 + i → a = b20 := fun a h => Classical.byContradiction fun hab => by
      by_cases ha : a = h0
      · rw [ha, kh] at h; omega
      · have := hl_b hi (by decide) (by decide) (hm a ha hab); omega
    refine lv_iload_n hx hb dX6_init_83 rfl (lv_at hl 1 rfl) ?_
    refine hq_iconst hx hb dX6_init_84 (by decide) (by decide) (fun z9 ez9 => ?_)
    refine hq_icmp_ge (tgt := 107) hx hb dX6_init_85 (by decide) (fun c9 => ?_) (fun c9 => ?_)
    · have hi4 : i = 4 := by omega
      subst hi4
      have hZ := hp_fin4 (b := b20) (h0 := h0) hZ kb kh hub (fun a h9 => by
        by_cases ha : a = h0
        · rw [ha, kh] at h9; omega
        · by_cases hab : a = b20
          · rw [hab, kb] at h9; omega
          · have := hl_b hi (by decide) (by decide) (hm a ha hab); omega) hg1 (fun a ha => by
        by_cases hab : a = b20
        · exact Or.inr ⟨by rw [hab]; exact kb, hab⟩
        · have := hl_b hi (by decide) (by decide) (hm a ha hab); omega)
      have hbh : b20 ≠ h0 := fun e9 => by rw [e9, kh] at kb; omega
      obtain ⟨κf, ef⟩ : ∃ z, z = hp_kk (hp_kk κi b20 15) h0 1 := ⟨_, rfl⟩
      rw [← ef] at hZ
      have kf : κf h0 = 1 := by rw [ef]; exact hp_kk_s _ _ _
      have hDf : ∀ a, κf a ≤ 17 ∧ κf a ≠ 11 := by
        intro a
        by_cases ha : a = h0
        · rw [ha, kf]; decide
        · by_cases hab : a = b20
          · rw [hab, ef, hp_kk_n hbh, hp_kk_s]; decide
          · rw [ef, hp_kk_n ha, hp_kk_n hab]; have := hl_b hi (by decide) (by decide) (hm a ha hab); omega
      refine lv_aload_n hx hb dX6_init_107 rfl (lv_at hl 0 rfl) ?_
      refine hp_getr (C := RX6) (T := TX6) (N := 12) (ci := 6) (kd := 1) hx hb hts iX6_init_X6 hown hK hZ.2.2.2.2 kf rfl rfl 2 (by decide) (hts (.fieldLink RX6 16 "NeighborBook" "told" "LNeighborBook$Contents;") (List.mem_of_getElem? (i := 9) rfl)) (fun _ h9 => h9) rfl dX6_init_108 (fun t70 kt70 => ?_)
      refine hq_iconst hx hb dX6_init_111 (by decide) (by decide) (fun z71 ez71 => ?_)
      refine va_gets (C := RX6) (n := "FIRST_NAME") (d := "[B") hx hb hZs hZ.2.2.2.2.2 hown (hts (.fieldLink RX6 58 "NeighborBook" "FIRST_NAME" "[B") (List.mem_of_getElem? (i := 29) rfl)) (fun _ h9 => h9) dX6_init_112 ?_
      refine hq_iconst hx hb dX6_init_115 (by decide) (by decide) (fun z72 ez72 => ?_)
      refine hq_iconst hx hb dX6_init_116 (by decide) (by decide) (fun z73 ez73 => ?_)
      refine hp_callv (va_runV (As := [.int z71, .ref tF, .int z72, .int z73]) (rest := []) ⟨hx, hb, hml, hown, hts⟩ (c_X0_keepS l dC dI dA κf B g t70 kt70 z71 tF z72 z73) (cwV 4 hts gX6_init_X0_keep rfl rfl rfl (by decide +kernel) ⟨Nat.le_of_ble_eq_true rfl, Nat.le_of_ble_eq_true rfl⟩) (hp_preK (q := (RX0, TX0, 2)) [.int z71, .ref tF, .int z72, .int z73] hK hN hZ.1 hZ.2.2.2.2 hT kt70 rfl rfl) rfl rfl hl.1 rfl (lv_room (Nat.le_of_ble_eq_true rfl)) dX6_init_117 ⟨(by show 61 + 4 + 0 ≤ 65; omega), (by show 7244 + 6 * 4 + 0 ≤ 7268; omega)⟩) hZ.2.2.2.2 (fun g9 H locs hp hJ => ?_)
      subst hp
      have hZ := (⟨hZ.1, hZ.2.1, hZ.2.2.1, Nat.le_trans hBz hJ.2.1, hJ⟩ : hp_Z dC dI dA κf B g s.heap H locs)
      refine lv_aload_n hx hb dX6_init_120 rfl (lv_at hl 0 rfl) ?_
      refine hp_getr (C := RX6) (T := TX6) (N := 12) (ci := 6) (kd := 1) hx hb hts iX6_init_X6 hown hK hZ.2.2.2.2 kf rfl rfl 2 (by decide) (hts (.fieldLink RX6 16 "NeighborBook" "told" "LNeighborBook$Contents;") (List.mem_of_getElem? (i := 9) rfl)) (fun _ h9 => h9) rfl dX6_init_121 (fun t74 kt74 => ?_)
      refine hq_iconst hx hb dX6_init_124 (by decide) (by decide) (fun z75 ez75 => ?_)
      refine va_gets (C := RX6) (n := "FIRST_NAME") (d := "[B") hx hb hZs hZ.2.2.2.2.2 hown (hts (.fieldLink RX6 58 "NeighborBook" "FIRST_NAME" "[B") (List.mem_of_getElem? (i := 29) rfl)) (fun _ h9 => h9) dX6_init_125 ?_
      refine hq_iconst hx hb dX6_init_128 (by decide) (by decide) (fun z76 ez76 => ?_)
      refine hq_iconst hx hb dX6_init_129 (by decide) (by decide) (fun z77 ez77 => ?_)
      refine hp_callv (va_runV (As := [.int z75, .ref tF, .int z76, .int z77]) (rest := []) ⟨hx, hb, hml, hown, hts⟩ (c_X0_keepS l dC dI dA κf B g t74 kt74 z75 tF z76 z77) (cwV 4 hts gX6_init_X0_keep rfl rfl rfl (by decide +kernel) ⟨Nat.le_of_ble_eq_true rfl, Nat.le_of_ble_eq_true rfl⟩) (hp_preK (q := (RX0, TX0, 2)) [.int z75, .ref tF, .int z76, .int z77] hK hN hZ.1 hZ.2.2.2.2 hT kt74 rfl rfl) rfl rfl hl.1 rfl (lv_room (Nat.le_of_ble_eq_true rfl)) dX6_init_130 ⟨(by show 61 + 4 + 0 ≤ 65; omega), (by show 7244 + 6 * 4 + 0 ≤ 7268; omega)⟩) hZ.2.2.2.2 (fun g9 H locs hp hJ => ?_)
      subst hp
      have hZ := (⟨hZ.1, hZ.2.1, hZ.2.2.1, Nat.le_trans hBz hJ.2.1, hJ⟩ : hp_Z dC dI dA κf B g s.heap H locs)
      refine W.cs (cells' := 65) (slots' := 7268) (by omega) (by omega) ?_
      exact hp_Uret hx hb hK hN hAO hlocks hZ hr ⟨kf, hDf⟩ dX6_init_133
    · refine lv_aload_n hx hb dX6_init_88 rfl (lv_at hl 0 rfl) ?_
      refine hp_getr (C := RX6) (T := TX6) (N := 12) (ci := 6) (kd := 110 + i) (k2 := 80 + i) hx hb hts iX6_init_X6 hown hK hZ.2.2.2.2 kh (hk_t110 hi) rfl 3 (by decide) (hts (.fieldLink RX6 22 "NeighborBook" "ports" "[LNeighborBook$Port;") (List.mem_of_getElem? (i := 11) rfl)) (fun _ h9 => h9) (hk_s110 i (by omega)) dX6_init_89 (fun b7 kb7 => ?_)
      have eb7 := hub b7 kb7
      subst eb7
      refine lv_iload_n hx hb dX6_init_92 rfl (lv_at hl 1 rfl) ?_
      have hi4 : i < 4 := by omega
      refine hp_newo (C := RX4) (T := TX4) (N := 6) (ci := 4) (kd := 5 + i) hx hb hts iX6_init_X4 tyX4 tyX4_ok hown (hts (.classLink RX6 20 RX4) (List.mem_of_getElem? (i := 10) rfl)) (hts (.instantiable RX4 6) (List.mem_of_getElem? (i := 27) rfl)) (hts (.initialized RX4) (List.mem_of_getElem? (i := 28) rfl)) hK hZ rfl (hk_t5 hi4) (by unfold hk_ok; omega) (fun _ k hk => by rw [hk_s5 hi4 hk, hgp (5 + i) k (by omega) (by omega)]; match k, hk with | 0, _ => exact ⟨0, rfl, rfl⟩ | 1, _ => exact ⟨0, rfl, rfl⟩ | 2, _ => exact ⟨0, rfl, rfl⟩ | 3, _ => exact ⟨0, rfl, rfl⟩ | 4, _ => exact ⟨0, rfl, rfl⟩ | 5, _ => exact ⟨0, rfl, rfl⟩) (fun _ a h9 => by
        by_cases ha : a = h0
        · rw [ha, kh] at h9; omega
        · by_cases hab : a = b7
          · rw [hab, kb] at h9; omega
          · have := hl_b hi (by decide) (by decide) (hm a ha hab); omega) (by show 61 + i + 1 ≤ 65; omega) (by show 7244 + 6 * i + 6 ≤ 7268; omega) dX6_init_93 (fun o8 H zo8 hZ => ?_)
      obtain ⟨κ8, e8⟩ : ∃ z, z = hp_kk κi o8 (5 + i) := ⟨_, rfl⟩
      rw [← e8] at hZ
      have ko8 : κ8 o8 = 5 + i := by rw [e8]; exact hp_kk_s _ _ _
      have kh8 : κ8 h0 = 110 + i := by rw [e8, hp_kk_n (ne_k kh zo8 (by omega))]; exact kh
      have kb8 : κ8 b7 = 80 + i := by rw [e8, hp_kk_n (ne_k kb zo8 (by omega))]; exact kb
      have hb7h : b7 ≠ h0 := fun e9 => by rw [e9, kh] at kb; omega
      refine lv_dup hx hb dX6_init_96 rfl ?_
      refine hp_callT (va_runIN (As := []) (rest := [.ref o8, .int v, .ref b7]) ⟨hx, hb, hml, hown, hts⟩ (c_X4_init l dC dI dA κ8 B g o8 (5 + i) ko8 (by omega)) ⟨va_cnB 0 hts gX6_init_X4_init_n57 rfl rfl rfl (hN _ (List.mem_of_getElem? (i := 3) rfl)) (hts (.initialized RX4) (List.mem_of_getElem? (i := 28) rfl)) (by decide +kernel) ⟨Nat.le_of_ble_eq_true rfl, Nat.le_of_ble_eq_true rfl⟩, rfl, (hts (.instanceMethod yX4_init) (List.mem_of_getElem? (i := 70) rfl))⟩ (hp_preT [.ref o8] hK hN hAO hZ) rfl rfl hl.1 rfl (lv_room (Nat.le_of_ble_eq_true rfl)) dX6_init_97 ⟨(by show 61 + i + 1 + 0 ≤ 65; omega), (by show 7244 + 6 * i + 6 + 0 ≤ 7268; omega)⟩) hZ (fun κ9 H locs hD9 hZ => ?_)
      have ko9 : κ9 o8 = 5 + i := hD9.1
      have kh9 : κ9 h0 = 110 + i := (hD9.2.1 h0 (by rw [kh8]; omega) (fun e9 => by rw [e9, ko8] at kh8; omega)).trans kh8
      have kb9 : κ9 b7 = 80 + i := (hD9.2.1 b7 (by rw [kb8]; omega) (fun e9 => by rw [e9, ko8] at kb8; omega)).trans kb8
      have hal9 : ∀ a, a ≠ h0 → a ≠ b7 → (κ9 a ∈ ([0, 2, 3, 4, 9, 10, 12, 13, 14, 16, 17] : List Nat) ∨ (5 ≤ κ9 a ∧ κ9 a < 5 + (i + 1))) := by
        intro a ha hab
        by_cases hao : a = o8
        · rw [hao, ko9]; exact Or.inr ⟨by omega, by omega⟩
        · by_cases hz8 : κ8 a = 0
          · exact Or.inl (hl_new (hD9.2.2 a hz8) (by decide))
          · rw [hD9.2.1 a hz8 hao, e8, hp_kk_n hao]
            rcases hm a ha hab with h | h
            · exact Or.inl h
            · exact Or.inr ⟨by omega, by omega⟩
      have hub9 : ∀ a, κ9 a = 80 + i → a = b7 := fun a h => Classical.byContradiction fun hab => by
        by_cases ha : a = h0
        · rw [ha, kh9] at h; omega
        · have := hl_b (show i + 1 ≤ 4 by omega) (by decide) (by decide) (hal9 a ha hab); omega
      refine hp_aasv 3 (q := (RX4, TX4, 6)) (n := 4) hx hb hK hZ.2.2.2.2 kb9 (hk_t80 hi) (by omega) (by omega) (by omega) hZ.1 ko9 (hk_t5 hi4) rfl rfl dX6_init_100 (fun F H locs hM hO hS => ?_)
      have hii : v.toInt.toNat = i := by omega
      rw [hii] at hM
      have ht81 : hk_t (81 + i) = (2, 3, 4) := by rw [show 81 + i = 80 + (i + 1) by omega]; exact hk_t80 (by omega)
      have ht111 : hk_t (111 + i) = (1, 6, 12) := by rw [show 111 + i = 110 + (i + 1) by omega]; exact hk_t110 (by omega)
      have hZ := hp_row (ka := 80 + i) (ka' := 81 + i) (kh := 110 + i) (kh' := 111 + i) (kn := 5 + i) (kf := 3) hZ.1 hZ.2.1 hZ.2.2.1 (Nat.le_trans hBz hS.1) hM hO hS kb9 kh9 ko9 (by rw [hk_t80 hi, ht81]) (by rw [hk_t110 hi, ht111]) (by unfold hk_ok; omega) (by unfold hk_ok; omega) (by rw [ht81]; simp) (by rw [ht111]; simp) (hk_xbig (by omega)) (hk_xbig (by omega)) (by omega) (by omega) (by omega)
        (fun j hj hl9 => hk_row80 i hi4 j (by rw [ht81] at hl9; exact hl9) hj) (hk_rowi80 i hi4) (fun j hj hl9 => hk_row110 i hi4 j (by rw [ht111] at hl9; exact hl9) hj) (hk_s110 i (by omega)) (by rw [show 111 + i = 110 + (i + 1) by omega, hk_s110 (i + 1) (by omega), show 80 + (i + 1) = 81 + i by omega]) (by rw [ht111]; decide) hub9 (fun a h => Classical.byContradiction fun ha => by
          by_cases hab : a = b7
          · rw [hab, kb9] at h; omega
          · have := hl_b (show i + 1 ≤ 4 by omega) (by decide) (by decide) (hal9 a ha hab); omega)
        (fun a j hj ha h => by
          have h5 := hk_sr (hZ.2.2.1 a) h hj
          by_cases hab : a = b7
          · rw [hab, kb9] at h5; omega
          · have := hl_b (show i + 1 ≤ 4 by omega) (by decide) (by decide) (hal9 a ha hab); omega)
        (fun a j hj h => by have h5 := hk_sr (hZ.2.2.1 a) h hj; omega)
      obtain ⟨κ10, e10⟩ : ∃ z, z = hp_kk (hp_kk κ9 b7 (81 + i)) h0 (111 + i) := ⟨_, rfl⟩
      rw [← e10] at hZ
      refine hq_iinc (k := 1) (lv' := fun (z9 : Int32) => [(1, .int z9), (0, .ref h0)]) hx hb dX6_init_101 hl rfl (by decide) (by decide) (by omega) (by omega) (by decide) (fun _ => rfl) (fun x9 ls ex9 hl => ?_)
      have hl : lv_has ls 2 [(1, .int x9), (0, .ref h0)] := hl
      refine lv_goto (tgt := 83) hx hb dX6_init_104 (by decide) ?_
      refine W.cs (cells' := 61 + (i + 1)) (slots' := 7244 + 6 * (i + 1)) (by omega) (by omega) ?_
      exact ih (i + 1) x9 κ10 _ _ ls (by omega) (by omega) (by omega) (by rw [e10, hp_kk_s]; omega) (by rw [e10, hp_kk_n hb7h, hp_kk_s]; omega) (fun a ha hab => by rw [e10, hp_kk_n ha, hp_kk_n hab]; exact hal9 a ha hab) hZ (lv_sub hl [1, 0] rfl)
