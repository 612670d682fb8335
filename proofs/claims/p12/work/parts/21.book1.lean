theorem iX6_init_X6 : ∀ w ∈ wsX60, w ∈ wsX6_init := fun _ h => List.mem_cons_of_mem _ (List.mem_append_left _ (List.mem_append_left _ (List.mem_append_left _ (List.mem_append_left _ (List.mem_append_left _ (List.mem_append_left _ (List.mem_append_right _ h)))))))
theorem iX6_init_X0 : ∀ w ∈ wsX00, w ∈ wsX6_init := fun _ h => List.mem_cons_of_mem _ (List.mem_append_left _ (List.mem_append_left _ (List.mem_append_left _ (List.mem_append_left _ (List.mem_append_left _ (List.mem_append_right _ h))))))
theorem iX6_init_X3 : ∀ w ∈ wsX30, w ∈ wsX6_init := fun _ h => List.mem_cons_of_mem _ (List.mem_append_left _ (List.mem_append_left _ (List.mem_append_left _ (List.mem_append_left _ (List.mem_append_right _ h)))))
theorem iX6_init_X1 : ∀ w ∈ wsX10, w ∈ wsX6_init := fun _ h => List.mem_cons_of_mem _ (List.mem_append_left _ (List.mem_append_left _ (List.mem_append_left _ (List.mem_append_right _ h))))
theorem iX6_init_X5 : ∀ w ∈ wsX50, w ∈ wsX6_init := fun _ h => List.mem_cons_of_mem _ (List.mem_append_left _ (List.mem_append_left _ (List.mem_append_right _ h)))
theorem iX6_init_X4 : ∀ w ∈ wsX40, w ∈ wsX6_init := fun _ h => List.mem_cons_of_mem _ (List.mem_append_left _ (List.mem_append_right _ h))
theorem iX6_init_X2 : ∀ w ∈ wsX20, w ∈ wsX6_init := fun _ h => List.mem_cons_of_mem _ (List.mem_append_right _ h)
set_option maxRecDepth 100000 in
set_option maxHeartbeats 8000000 in
theorem lp_X6_init (l : Launch) {p : Program} {e : Env} {s : State} {m : MethodId} {below : List Frame} {meth : Method} {c : Code} {dC : Nat → ClassId} {dI : Nat → Nat → Nat} {dA : Nat → ClassId} {B : Nat} {g : Nat → Nat → Int} {h0 tF b20 : Nat} (hx : p.tables.exec = Jvm.exec) (hb : c.code = cX6_init) (hr : meth.sig.returnType = none) (hts : ∀ w ∈ wsX6_init, w.before ([Value.ref h0] : List Value).toArray s = true) (hown : s.vm.findClass RX6 = some m.cls) (hlocks : meth.locks = false) (hml : c.maxLocals = 2) (hK : va_K (dC, dI) vwCl (hp_ty dA) s) (hN : hp_N s) (hAO : va_AO RX4 s ∧ va_AO RX2 s) (hBz : B ≤ s.heap.size) (hZs : va_Z RX6 "FIRST_NAME" "[B" (.ref tF) (hp_A B) s s.heap) (hT : va_T .byte tF 2 (fun _ => .int 0) (hp_A B) s s.heap) (hg1 : ∀ k : Nat, g 1 k = 0) (hgp : ∀ a k : Nat, 5 ≤ a → a ≤ 8 → g a k = 0) : ∀ (n i : Nat) (v : Int32) (κi : Nat → Nat) (H : Heap) (locs : List Loc) (ls : Array Slot), i ≤ 4 → v.toInt = (i : Int) → 4 - i < n → κi h0 = 110 + i → κi b20 = 80 + i → (∀ a, a ≠ h0 → a ≠ b20 → (hl_P [0, 3, 4, 10, 12, 16, 17] (κi a) ((κi a - 300) % 20 < 14) ∨ (5 ≤ κi a ∧ κi a < 5 + i))) → hp_Z dC dI dA κi B g s.heap H locs → lv_has ls 2 [(0, .ref h0), (1, .int v)] → W p l e (headSpec wsX6_init ({ frames := 5, cells := 65, slots := 7268, locals := 104 } : Room)).room s m ([Value.ref h0] : List Value).toArray below meth c H locs (61 + i) (7244 + 6 * i) (MQ below (hp_QU dC dI dA B g (fun κ' => κ' h0 = 1 ∧ ∀ a, (κ' a ≤ 17 ∧ κ' a ≠ 11) ∨ (300 ≤ κ' a ∧ κ' a < 380 ∧ (κ' a < 312 ∨ 320 ≤ κ' a)))) ([Value.ref h0] : List Value).toArray s 65 7268 (hp_A B)) (F0 m 83 ls [])  := by
  intro n
  induction n with
  | zero => intro i v κi H locs ls h1 h2 h3; exact absurd h3 (by omega)
  | succ n ih =>
    intro i v κi H locs ls hi hv hn kh kb hm hZ hl
    have hub : ∀ a, κi a = 80 + i → a = b20 := fun a h => Classical.byContradiction fun hab => by
      by_cases ha : a = h0
      · rw [ha, kh] at h; omega
      · exact (nn_w (hl_e hi (by decide) (by decide) (hm a ha hab)).2.2.1 hi).1 h
    refine lv_iload_n hx hb dX6_init_83 rfl (lv_at hl 1 rfl) ?_
    refine hq_iconst hx hb dX6_init_84 (by decide) (by decide) (fun z9 ez9 => ?_)
    refine hq_icmp_ge (tgt := 107) hx hb dX6_init_85 (by decide) (fun c9 => ?_) (fun c9 => ?_)
    · have hi4 : i = 4 := by omega
      subst hi4
      have hZ := hp_fin4 (b := b20) (h0 := h0) hZ kb kh hub (fun a h9 => by
        by_cases ha : a = h0
        · rw [ha, kh] at h9; omega
        · by_cases hab : a = b20
          · rw [hab, kb] at h9; omega
          · exact (hl_e hi (by decide) (by decide) (hm a ha hab)).1 h9) hg1 (fun a ha => by
        by_cases hab : a = b20
        · exact Or.inr (Or.inl ⟨by rw [hab]; exact kb, hab⟩)
        · exact (hl_e hi (by decide) (by decide) (hm a ha hab)).2.2.1.elim Or.inl (fun h9 => Or.inr (Or.inr h9)))
      have hbh : b20 ≠ h0 := fun e9 => by rw [e9, kh] at kb; omega
      obtain ⟨κf, ef⟩ : ∃ z, z = hp_kk (hp_kk κi b20 15) h0 1 := ⟨_, rfl⟩
      rw [← ef] at hZ
      have kf : κf h0 = 1 := by rw [ef]; exact hp_kk_s _ _ _
      have hDf : ∀ a, (κf a ≤ 17 ∧ κf a ≠ 11) ∨ (300 ≤ κf a ∧ κf a < 380 ∧ (κf a < 312 ∨ 320 ≤ κf a)) := by
        intro a
        by_cases ha : a = h0
        · rw [ha, kf]; omega
        · by_cases hab : a = b20
          · rw [hab, ef, hp_kk_n hbh, hp_kk_s]; omega
          · rw [ef, hp_kk_n ha, hp_kk_n hab]; exact (hl_e hi (by decide) (by decide) (hm a ha hab)).2.2.2
      refine lv_aload_n hx hb dX6_init_107 rfl (lv_at hl 0 rfl) ?_
      refine hp_getr (C := RX6) (T := TX6) (N := 12) (ci := 6) (kd := 1) hx hb hts iX6_init_X6 hown hK hZ.2.2.2.2 kf rfl rfl 2 (by decide) (hts (.fieldLink RX6 16 "NeighborBook" "told" "LNeighborBook$Contents;") (List.mem_of_getElem? (i := 9) rfl)) (fun _ h9 => h9) rfl dX6_init_108 (fun t70 kt70 => ?_)
      refine hq_iconst hx hb dX6_init_111 (by decide) (by decide) (fun z71 ez71 => ?_)
      refine va_gets (C := RX6) (n := "FIRST_NAME") (d := "[B") hx hb hZs hZ.2.2.2.2.2 hown (hts (.fieldLink RX6 58 "NeighborBook" "FIRST_NAME" "[B") (List.mem_of_getElem? (i := 29) rfl)) (fun _ h9 => h9) dX6_init_112 ?_
      refine hq_iconst hx hb dX6_init_115 (by decide) (by decide) (fun z72 ez72 => ?_)
      refine hq_iconst hx hb dX6_init_116 (by decide) (by decide) (fun z73 ez73 => ?_)
      refine hp_callv (va_runV (As := [.int z71, .ref tF, .int z72, .int z73]) (rest := []) ⟨hx, hb, hml, hown, hts⟩ (c_X0_keepS l dC dI dA κf B g t70 kt70 z71 tF z72 z73) (cwV 4 hts gX6_init_X0_keep rfl rfl rfl (by decide +kernel) ⟨Nat.le_of_ble_eq_true rfl, Nat.le_of_ble_eq_true rfl⟩) (hp_preK (q := (RX0, TX0, 2)) [.int z71, .ref tF, .int z72, .int z73] hK hN hZ.1 hZ.2.2.2.2 hT kt70 rfl rfl) rfl rfl hl.1 rfl (lv_room (Nat.le_of_ble_eq_true rfl)) dX6_init_117 ⟨(by show 61 + 4 + 0 ≤ 65; omega), (by show 7244 + 6 * 4 + 0 ≤ 7268; omega)⟩) hZ.2.2.2.2 (fun g9 H locs hp hJ => ?_)
      subst hp
      have hZ := (⟨hZ.1, hZ.2.1, hZ.2.2.1, Nat.le_trans hBz hJ.2.1, hJ⟩ : hp_Z dC dI dA κf B g s.heap H locs)
      refine lv_aload_n hx hb dX6_init_120 rfl (lv_at hl 0 rfl) ?_
      refine hp_getr (C := RX6) (T := TX6) (N := 12) (ci := 6) (kd := 1) hx hb hts iX6_init_X6 hown hK hZ.2.2.2.2 kf rfl rfl 2 (by decide) (hts (.fieldLink RX6 16 "NeighborBook" "told" "LNeighborBook$Contents;") (List.mem_of_getElem? (i := 9) rfl)) (fun _ h9 => h9) rfl dX6_init_121 (fun t74 kt74 => ?_)
      refine hq_iconst hx hb dX6_init_124 (by decide) (by decide) (fun z75 ez75 => ?_)
      refine va_gets (C := RX6) (n := "FIRST_NAME") (d := "[B") hx hb hZs hZ.2.2.2.2.2 hown (hts (.fieldLink RX6 58 "NeighborBook" "FIRST_NAME" "[B") (List.mem_of_getElem? (i := 29) rfl)) (fun _ h9 => h9) dX6_init_125 ?_
      refine hq_iconst hx hb dX6_init_128 (by decide) (by decide) (fun z76 ez76 => ?_)
      refine hq_iconst hx hb dX6_init_129 (by decide) (by decide) (fun z77 ez77 => ?_)
      refine hp_callv (va_runV (As := [.int z75, .ref tF, .int z76, .int z77]) (rest := []) ⟨hx, hb, hml, hown, hts⟩ (c_X0_keepS l dC dI dA κf B g t74 kt74 z75 tF z76 z77) (cwV 4 hts gX6_init_X0_keep rfl rfl rfl (by decide +kernel) ⟨Nat.le_of_ble_eq_true rfl, Nat.le_of_ble_eq_true rfl⟩) (hp_preK (q := (RX0, TX0, 2)) [.int z75, .ref tF, .int z76, .int z77] hK hN hZ.1 hZ.2.2.2.2 hT kt74 rfl rfl) rfl rfl hl.1 rfl (lv_room (Nat.le_of_ble_eq_true rfl)) dX6_init_130 ⟨(by show 61 + 4 + 0 ≤ 65; omega), (by show 7244 + 6 * 4 + 0 ≤ 7268; omega)⟩) hZ.2.2.2.2 (fun g9 H locs hp hJ => ?_)
      subst hp
      have hZ := (⟨hZ.1, hZ.2.1, hZ.2.2.1, Nat.le_trans hBz hJ.2.1, hJ⟩ : hp_Z dC dI dA κf B g s.heap H locs)
      refine W.cs (cells' := 65) (slots' := 7268) (by omega) (by omega) ?_
      exact hp_Uret hx hb hK hN hAO hlocks hZ hr ⟨kf, hDf⟩ dX6_init_133
    · refine lv_aload_n hx hb dX6_init_88 rfl (lv_at hl 0 rfl) ?_
      refine hp_getr (C := RX6) (T := TX6) (N := 12) (ci := 6) (kd := 110 + i) (k2 := 80 + i) hx hb hts iX6_init_X6 hown hK hZ.2.2.2.2 kh (hk_t110 hi) rfl 3 (by decide) (hts (.fieldLink RX6 22 "NeighborBook" "ports" "[LNeighborBook$Port;") (List.mem_of_getElem? (i := 11) rfl)) (fun _ h9 => h9) (hk_s110 i (by omega)) dX6_init_89 (fun b7 kb7 => ?_)
      have eb7 := hub b7 kb7
      subst eb7
      refine lv_iload_n hx hb dX6_init_92 rfl (lv_at hl 1 rfl) ?_
      have hi4 : i < 4 := by omega
      refine hp_newo (C := RX4) (T := TX4) (N := 6) (ci := 4) (kd := 5 + i) hx hb hts iX6_init_X4 tyX4 tyX4_ok hown (hts (.classLink RX6 20 RX4) (List.mem_of_getElem? (i := 10) rfl)) (hts (.instantiable RX4 6) (List.mem_of_getElem? (i := 27) rfl)) (hts (.initialized RX4) (List.mem_of_getElem? (i := 28) rfl)) hK hZ rfl (hk_t5 hi4) (by unfold hk_ok; omega) (fun _ k hk => by rw [hk_s5 hi4 hk, hgp (5 + i) k (by omega) (by omega)]; match k, hk with | 0, _ => exact ⟨0, rfl, rfl⟩ | 1, _ => exact ⟨0, rfl, rfl⟩ | 2, _ => exact ⟨0, rfl, rfl⟩ | 3, _ => exact ⟨0, rfl, rfl⟩ | 4, _ => exact ⟨0, rfl, rfl⟩ | 5, _ => exact ⟨0, rfl, rfl⟩) (fun _ a h9 => by
        by_cases ha : a = h0
        · rw [ha, kh] at h9; omega
        · by_cases hab : a = b7
          · rw [hab, kb] at h9; omega
          · exact (hl_e hi (by decide) (by decide) (hm a ha hab)).2.1 hi4 h9) (by show 61 + i + 1 ≤ 65; omega) (by show 7244 + 6 * i + 6 ≤ 7268; omega) dX6_init_93 (fun o8 H zo8 hZ => ?_)
      obtain ⟨κ8, e8⟩ : ∃ z, z = hp_kk κi o8 (5 + i) := ⟨_, rfl⟩
      rw [← e8] at hZ
      have ko8 : κ8 o8 = 5 + i := by rw [e8]; exact hp_kk_s _ _ _
      have kh8 : κ8 h0 = 110 + i := by rw [e8, hp_kk_n (ne_k kh zo8 (by omega))]; exact kh
      have kb8 : κ8 b7 = 80 + i := by rw [e8, hp_kk_n (ne_k kb zo8 (by omega))]; exact kb
      have hb7h : b7 ≠ h0 := fun e9 => by rw [e9, kh] at kb; omega
      refine lv_dup hx hb dX6_init_96 rfl ?_
      refine hp_callT (va_runIN (As := []) (rest := [.ref o8, .int v, .ref b7]) ⟨hx, hb, hml, hown, hts⟩ (c_X4_init l dC dI dA κ8 B g o8 (5 + i) ko8 (by omega)) ⟨va_cnB 0 hts gX6_init_X4_init_n57 rfl rfl rfl (hN _ (List.mem_of_getElem? (i := 3) rfl)) (hts (.initialized RX4) (List.mem_of_getElem? (i := 28) rfl)) (by decide +kernel) ⟨Nat.le_of_ble_eq_true rfl, Nat.le_of_ble_eq_true rfl⟩, rfl, (hts (.instanceMethod yX4_init) (List.mem_of_getElem? (i := 70) rfl))⟩ (hp_preT [.ref o8] hK hN hAO hZ) rfl rfl hl.1 rfl (lv_room (Nat.le_of_ble_eq_true rfl)) dX6_init_97 ⟨(by show 61 + i + 1 + 0 ≤ 65; omega), (by show 7244 + 6 * i + 6 + 0 ≤ 7268; omega)⟩) hZ (fun κ9 H locs hD9 hZ => ?_)
      have ko9 : κ9 o8 = 5 + i := hD9.1
      have kh9 : κ9 h0 = 110 + i := (hD9.2.1 h0 (by rw [kh8]; omega) (fun e9 => by rw [e9, ko8] at kh8; omega)).trans kh8
      have kb9 : κ9 b7 = 80 + i := (hD9.2.1 b7 (by rw [kb8]; omega) (fun e9 => by rw [e9, ko8] at kb8; omega)).trans kb8
      have hal9 : ∀ a, a ≠ h0 → a ≠ b7 → (hl_P [0, 3, 4, 10, 12, 16, 17] (κ9 a) ((κ9 a - 300) % 20 < 14) ∨ (5 ≤ κ9 a ∧ κ9 a < 5 + (i + 1))) := by
        intro a ha hab
        by_cases hao : a = o8
        · rw [hao, ko9]; exact Or.inr ⟨by omega, by omega⟩
        · by_cases hz8 : κ8 a = 0
          · have h3 : κ9 a = 0 := hD9.2.2 a hz8
            rw [h3]; exact Or.inl (Or.inl (by decide))
          · rw [hD9.2.1 a hz8 hao, e8, hp_kk_n hao]
            rcases hm a ha hab with h | h
            · exact Or.inl h
            · exact Or.inr ⟨by omega, by omega⟩
      have hub9 : ∀ a, κ9 a = 80 + i → a = b7 := fun a h => Classical.byContradiction fun hab => by
        by_cases ha : a = h0
        · rw [ha, kh9] at h; omega
        · exact (nn_w (hl_e (show i + 1 ≤ 4 by omega) (by decide) (by decide) (hal9 a ha hab)).2.2.1 hi).1 h
      refine hp_aasv 3 (q := (RX4, TX4, 6)) (n := 4) hx hb hK hZ.2.2.2.2 kb9 (hk_t80 hi) (by omega) (by omega) (by omega) hZ.1 ko9 (hk_t5 hi4) rfl rfl dX6_init_100 (fun F H locs hM hO hS => ?_)
      have hii : v.toInt.toNat = i := by omega
      rw [hii] at hM
      have ht81 : hk_t (81 + i) = (2, 3, 4) := by rw [show 81 + i = 80 + (i + 1) by omega]; exact hk_t80 (by omega)
      have ht111 : hk_t (111 + i) = (1, 6, 12) := by rw [show 111 + i = 110 + (i + 1) by omega]; exact hk_t110 (by omega)
      have hZ := hp_row (ka := 80 + i) (ka' := 81 + i) (kh := 110 + i) (kh' := 111 + i) (kn := 5 + i) (kf := 3) hZ.1 hZ.2.1 hZ.2.2.1 (Nat.le_trans hBz hS.1) hM hO hS kb9 kh9 ko9 (by rw [hk_t80 hi, ht81]) (by rw [hk_t110 hi, ht111]) (by unfold hk_ok; omega) (by unfold hk_ok; omega) (by rw [ht81]; simp) (by rw [ht111]; simp) (hk_xbig (by omega) (by omega)) (hk_xbig (by omega) (by omega)) (by omega) (by omega) (by omega)
        (fun j hj hl9 => hk_row80 i hi4 j (by rw [ht81] at hl9; exact hl9) hj) (hk_rowi80 i hi4) (fun j hj hl9 => hk_row110 i hi4 j (by rw [ht111] at hl9; exact hl9) hj) (hk_s110 i (by omega)) (by rw [show 111 + i = 110 + (i + 1) by omega, hk_s110 (i + 1) (by omega), show 80 + (i + 1) = 81 + i by omega]) (by rw [ht111]; decide) hub9 (fun a h => Classical.byContradiction fun ha => by
          by_cases hab : a = b7
          · rw [hab, kb9] at h; omega
          · exact (nn_w (hl_e (show i + 1 ≤ 4 by omega) (by decide) (by decide) (hal9 a ha hab)).2.2.1 hi).2 h)
        (fun a j hj ha h => by
          have h5 := nn_s8 (hZ.2.2.1 a) hj hi h
          by_cases hab : a = b7
          · rw [hab, kb9] at h5; omega
          · exact nn_x (hl_e (show i + 1 ≤ 4 by omega) (by decide) (by decide) (hal9 a ha hab)).2.2.1 h5)
        (fun a j hj => nn_t8 (hZ.2.2.1 a) hj hi)
      obtain ⟨κ10, e10⟩ : ∃ z, z = hp_kk (hp_kk κ9 b7 (81 + i)) h0 (111 + i) := ⟨_, rfl⟩
      rw [← e10] at hZ
      refine hq_iinc (k := 1) (lv' := fun (z9 : Int32) => [(1, .int z9), (0, .ref h0)]) hx hb dX6_init_101 hl rfl (by decide) (by decide) (by omega) (by omega) (by decide) (fun _ => rfl) (fun x9 ls ex9 hl => ?_)
      have hl : lv_has ls 2 [(1, .int x9), (0, .ref h0)] := hl
      refine lv_goto (tgt := 83) hx hb dX6_init_104 (by decide) ?_
      refine W.cs (cells' := 61 + (i + 1)) (slots' := 7244 + 6 * (i + 1)) (by omega) (by omega) ?_
      exact ih (i + 1) x9 κ10 _ _ ls (by omega) (by omega) (by omega) (by rw [e10, hp_kk_s]; omega) (by rw [e10, hp_kk_n hb7h, hp_kk_s]; omega) (fun a ha hab => by rw [e10, hp_kk_n ha, hp_kk_n hab]; exact hal9 a ha hab) hZ (lv_sub hl [1, 0] rfl)
set_option maxRecDepth 100000 in
set_option maxHeartbeats 4000000 in
theorem c_X6_init (l : Launch) (dC : Nat → ClassId) (dI : Nat → Nat → Nat) (dA : Nat → ClassId) (κ : Nat → Nat) (B : Nat) (g : Nat → Nat → Int) (h0 : Nat) (k0 : κ h0 = 100) (hz : ∀ a, a ≠ h0 → κ a = 0) (hg1 : ∀ k : Nat, g 1 k = 0) (hg4 : g 4 1 = 0) (hg42 : g 4 2 = -1) (hg10 : g 10 1 = 0) (hgp : ∀ a k : Nat, 5 ≤ a → a ≤ 8 → g a k = 0) (tF : Nat) : Met l yX6_init wsX6_init ({ frames := 5, cells := 65, slots := 7268, locals := 104 } : Room) (va_Pc [.ref h0] (fun U => hp_T dC dI dA κ B g U ∧ va_Z RX6 "FIRST_NAME" "[B" (.ref tF) (hp_A B) U U.heap ∧ va_T .byte tF 2 (fun _ => .int 0) (hp_A B) U U.heap)) (hp_QU dC dI dA B g (fun κ' => κ' h0 = 1 ∧ ∀ a, (κ' a ≤ 17 ∧ κ' a ≠ 11) ∨ (300 ≤ κ' a ∧ κ' a < 380 ∧ (κ' a < 312 ∨ 320 ≤ κ' a)))) 65 7268 (hp_A B) := by
  refine Met.ofW (cc := cX6_init) (maxL := 2) (ret := none) (by decide) rfl ?_
  intro p e s m args below meth c s₁ Bd hml hv
  obtain ⟨rfl, ⟨⟨hK, hN, hW, hF⟩, hV, hKk, hBz, hAO⟩, hZs, hT⟩ := hv
  have hx := Bd.exec
  have hb := Bd.bytes
  have hr := Bd.returns
  have hts := atoms_spec (ws := wsX6_init) Bd.pre
  have hown : s.vm.findClass RX6 = some m.cls := findClass_of_methodNamed Bd.named
  have hlocks := Bd.notSynchronized
  have hin : meth.name = "<init>" := (name_of_methodNamed Bd.named Bd.method).1
  have hZ : hp_Z dC dI dA κ B g s.heap s.heap [] := ⟨hW, hV, hKk, hBz, hF, va_S.rf⟩
  have hl := lv_entry ([Value.ref h0]) (n := 2) (Nat.le_of_ble_eq_true rfl)
  rw [lg_entry_eq]
  generalize (lg_sl ([Value.ref h0]) ++ List.replicate (2 - (lg_sl ([Value.ref h0])).length) Slot.unset).toArray = ls at hl ⊢
  have hl : lv_has ls 2 [(0, .ref h0)] := hl
  have hE : hp_EN (fun n => n = 0) κ κ h0 h0 := en_rf (show 0 = 0 from by omega)
  have h0n : κ h0 ≠ 0 := by rw [k0]; omega
  refine lv_aload_n hx hb dX6_init_0 rfl (lv_at hl 0 rfl) ?_
  refine W.objInit hx hb hown (hts (.methodLink RX6 1 objectInit) (List.mem_of_getElem? (i := 1) rfl)) (hts (.instanceMethod objectInit) (List.mem_of_getElem? (i := 2) rfl)) (hts (.code objectInit ⟨#[0xb1]⟩ 1 none) (List.mem_of_getElem? (i := 3) rfl)) rfl (by rw [hml]; exact hl.1) rfl dX6_init_1 (Nat.le_of_ble_eq_true rfl) (Nat.le_of_ble_eq_true rfl) ?_
  have hm : ∀ a, a ≠ h0 → hl_P [0] (κ a) (False) := fun a ha => Or.inl (by rw [hz a ha]; decide)
  refine lv_aload_n hx hb dX6_init_4 rfl (lv_at hl 0 rfl) ?_
  refine hq_sipush hx hb dX6_init_5 (by decide) (fun z1 ez1 => ?_)
  refine hp_newi (atype := .byte) (ty := 1) (N := 700) (kd := 12) hx hb (hts (.arrayClass .byte) (List.mem_of_getElem? (i := 4) rfl)) hK hZ (hK.2 1 _ rfl).2 rfl (by unfold hk_ok; omega) (fun _ k _ => ⟨0, rfl, by decide, by decide⟩) (fun _ a h9 => by by_cases ha : a = h0; (rw [ha, k0] at h9; omega); (exact hl_ne (hm a ha) (by decide) (by decide) h9)) (by omega) (by show 700 * 1 ≤ 536870912; omega) (by show 0 + 1 ≤ 65; omega) (by show 0 + 700 ≤ 7268; omega) dX6_init_8 (fun b2 H zb2 hZ => ?_)
  refine W.cs (cells' := 1) (slots' := 700) (by omega) (by omega) ?_
  obtain ⟨κ3, eκ3⟩ : ∃ z, z = hp_kk κ b2 (12) := ⟨_, rfl⟩
  rw [← eκ3] at hZ
  have k4 : κ3 h0 = 100 := by rw [eκ3, hp_kk_n (ne_k k0 zb2 (by omega))]; exact k0
  have k5 : κ3 b2 = 12 := by rw [eκ3]; exact hp_kk_s _ _ _
  have hm : ∀ a, a ≠ h0 → hl_P [0, 12] (κ3 a) (False) := by
    intro a ha
    by_cases hab : a = b2
    · rw [hab, k5]; exact Or.inl (by decide)
    · rw [eκ3, hp_kk_n hab]; exact (hm a ha).mono (by decide) id
  refine hp_putF (C := RX6) (T := TX6) (N := 12) (ci := 6) (kd := 100) hx hb hts iX6_init_X6 hown hK hZ.2.2.2.2 k4 (rfl : hk_t 100 = (1, 6, 12)) rfl 0 (by decide) (hts (.fieldLink RX6 9 "NeighborBook" "typed" "[B") (List.mem_of_getElem? (i := 5) rfl)) (fun _ h9 => h9) tyX6 tyX6_ok nmX6 (v := .ref b2) rfl rfl (by omega) hZ.1 rfl hin rfl dX6_init_10 (fun F H locs hM hO hS => ?_)
  have hZ := hp_step (k1 := 100) (k2 := 101) hZ.1 hZ.2.1 hZ.2.2.1 (Nat.le_trans hBz hS.1) hM hO hS k4 ((rfl : hk_t 101 = (1, 6, 12)).trans (rfl : hk_t 100 = (1, 6, 12)).symm) (by unfold hk_ok; omega) (by rw [(rfl : hk_t 101 = (1, 6, 12))]; decide) (fun a j hj _ h => by have := hk_sr (hZ.2.2.1 a) h hj; omega) (fun j hj h => by have := hk_sr (kd := 101) (by unfold hk_ok; omega) h hj; omega) ⟨b2, rfl, k5⟩ (fun j hj hl w hw => by
        have hl : j < 12 := by rw [(rfl : hk_t 100 = (1, 6, 12))] at hl; exact hl
        match j, hj, hl, hw with
        | 1, _, _, hw => exact hw
        | 2, _, _, hw => exact hw
        | 3, _, _, hw => exact hw
        | 4, _, _, hw => exact hw
        | 5, _, _, hw => exact hw
        | 6, _, _, hw => exact hw
        | 7, _, _, hw => exact hw
        | 8, _, _, hw => exact hw
        | 9, _, _, hw => exact hw
        | 10, _, _, hw => exact hw
        | 11, _, _, hw => exact hw
        | 0, hj, _, _ => exact absurd rfl hj) (fun h => absurd h (by decide))
  obtain ⟨κ6, eκ6⟩ : ∃ z, z = hp_kk κ3 h0 (101) := ⟨_, rfl⟩
  rw [← eκ6] at hZ
  have k7 : κ6 b2 = 12 := by rw [eκ6, hp_kk_n (fun h9 => by rw [h9, k4] at k5; omega)]; exact k5
  have k8 : κ6 h0 = 101 := by rw [eκ6]; exact hp_kk_s _ _ _
  have hm : ∀ a, a ≠ h0 → hl_P [0, 12] (κ6 a) (False) := fun a ha => by rw [eκ6, hp_kk_n ha]; exact hm a ha
  refine lv_aload_n hx hb dX6_init_13 rfl (lv_at hl 0 rfl) ?_
  refine hp_newo (C := RX0) (T := TX0) (N := 2) (ci := 0) (kd := 31) hx hb hts iX6_init_X0 tyX0 tyX0_ok hown (hts (.classLink RX6 13 RX0) (List.mem_of_getElem? (i := 6) rfl)) (hts (.instantiable RX0 2) (List.mem_of_getElem? (i := 7) rfl)) (hts (.initialized RX0) (List.mem_of_getElem? (i := 8) rfl)) hK hZ rfl rfl (by unfold hk_ok; omega) (fun _ k hk => by match k, hk with | 0, _ => exact trivial | 1, _ => exact trivial) (fun h => absurd h (by decide)) (by show 1 + 1 ≤ 65; omega) (by show 700 + 2 ≤ 7268; omega) dX6_init_14 (fun b9 H zb9 hZ => ?_)
  refine W.cs (cells' := 2) (slots' := 702) (by omega) (by omega) ?_
  obtain ⟨κ10, eκ10⟩ : ∃ z, z = hp_kk κ6 b9 (31) := ⟨_, rfl⟩
  rw [← eκ10] at hZ
  have k11 : κ10 h0 = 101 := by rw [eκ10, hp_kk_n (ne_k k8 zb9 (by omega))]; exact k8
  have k12 : κ10 b9 = 31 := by rw [eκ10]; exact hp_kk_s _ _ _
  have hm : ∀ a, a ≠ h0 → a ≠ b9 → hl_P [0, 12] (κ10 a) (False) := by
    intro a ha hab
    rw [eκ10, hp_kk_n hab]; exact hm a ha
  refine lv_dup hx hb dX6_init_17 rfl ?_
  refine hp_callT (va_runI (As := []) (rest := [.ref b9, .ref h0]) ⟨hx, hb, hml, hown, hts⟩ (c_X0_init l dC dI dA κ10 B g b9 k12 13 (by omega) (fun a => by by_cases ha : a = h0; (rw [ha, k11]; omega); (by_cases hab : a = b9; (rw [hab, k12]; omega); (exact ⟨fun h9 => (hl_col (hm a ha hab) (by decide) (by omega)).elim, fun h9 => (hl_col (hm a ha hab) (by decide) (by omega)).elim⟩)))) (cwI 0 hts gX6_init_X0_init rfl rfl rfl (hts (.initialized RX0) (List.mem_of_getElem? (i := 8) rfl)) (hts (.methodLink RX6 15 yX0_init) (List.mem_of_getElem? (i := 30) rfl)) (hts (.instanceMethod yX0_init) (List.mem_of_getElem? (i := 31) rfl)) rfl (by decide +kernel) ⟨Nat.le_of_ble_eq_true rfl, Nat.le_of_ble_eq_true rfl⟩) (hp_preT [.ref b9] hK hN hAO hZ) rfl rfl hl.1 rfl (lv_room (Nat.le_of_ble_eq_true rfl)) dX6_init_18 ⟨(by show 2 + 2 ≤ 65; omega), (by show 702 + 429 ≤ 7268; omega)⟩) hZ (fun κ13 H locs hDκ13 hZ => ?_)
  refine W.cs (cells' := 4) (slots' := 1131) (by omega) (by omega) ?_
  have k14 : κ13 h0 = 101 := (hDκ13.2.1 h0 (by rw [k11]; omega) (fun h9 => by rw [h9, k12] at k11; omega)).trans k11
  have k15 : κ13 b9 = 333 := hDκ13.1
  have hm : ∀ a, a ≠ h0 → hl_P [0, 12] (κ13 a) ((κ13 a - 300) % 20 = 13) := by
    intro a ha
    by_cases hab : a = b9
    · rw [hab, hDκ13.1]; exact Or.inr (by omega)
    · by_cases hz9 : κ10 a = 0
      · have h3 : (κ13 a) = 0 ∨ (κ13 a) = 340 + 13 ∨ (κ13 a) = 360 + 13 := hDκ13.2.2 a hz9
        by_cases h8 : 300 ≤ κ13 a
        · exact Or.inr (by omega)
        · refine Or.inl ?_
          rcases (show κ13 a = 0 by omega) with h7 <;> rw [h7] <;> decide
      · rw [hDκ13.2.1 a hz9 hab]; exact (hm a ha hab).mono (by decide) (fun h8 => h8.elim)
  refine hp_putF (C := RX6) (T := TX6) (N := 12) (ci := 6) (kd := 101) hx hb hts iX6_init_X6 hown hK hZ.2.2.2.2 k14 (rfl : hk_t 101 = (1, 6, 12)) rfl 2 (by decide) (hts (.fieldLink RX6 16 "NeighborBook" "told" "LNeighborBook$Contents;") (List.mem_of_getElem? (i := 9) rfl)) (fun _ h9 => h9) tyX6 tyX6_ok nmX6 (v := .ref b9) rfl rfl (by omega) hZ.1 rfl hin rfl dX6_init_21 (fun F H locs hM hO hS => ?_)
  have hZ := hp_step (k1 := 101) (k2 := 102) hZ.1 hZ.2.1 hZ.2.2.1 (Nat.le_trans hBz hS.1) hM hO hS k14 ((rfl : hk_t 102 = (1, 6, 12)).trans (rfl : hk_t 101 = (1, 6, 12)).symm) (by unfold hk_ok; omega) (by rw [(rfl : hk_t 102 = (1, 6, 12))]; decide) (fun a j hj _ h => by have := hk_sr (hZ.2.2.1 a) h hj; omega) (fun j hj h => by have := hk_sr (kd := 102) (by unfold hk_ok; omega) h hj; omega) ⟨b9, rfl, k15⟩ (fun j hj hl w hw => by
        have hl : j < 12 := by rw [(rfl : hk_t 101 = (1, 6, 12))] at hl; exact hl
        match j, hj, hl, hw with
        | 0, _, _, hw => exact hw
        | 1, _, _, hw => exact hw
        | 3, _, _, hw => exact hw
        | 4, _, _, hw => exact hw
        | 5, _, _, hw => exact hw
        | 6, _, _, hw => exact hw
        | 7, _, _, hw => exact hw
        | 8, _, _, hw => exact hw
        | 9, _, _, hw => exact hw
        | 10, _, _, hw => exact hw
        | 11, _, _, hw => exact hw
        | 2, hj, _, _ => exact absurd rfl hj) (fun h => absurd h (by decide))
  obtain ⟨κ16, eκ16⟩ : ∃ z, z = hp_kk κ13 h0 (102) := ⟨_, rfl⟩
  rw [← eκ16] at hZ
  have k17 : κ16 b9 = 333 := by rw [eκ16, hp_kk_n (fun h9 => by rw [h9, k14] at k15; omega)]; exact k15
  have k18 : κ16 h0 = 102 := by rw [eκ16]; exact hp_kk_s _ _ _
  have hm : ∀ a, a ≠ h0 → hl_P [0, 12] (κ16 a) ((κ16 a - 300) % 20 = 13) := fun a ha => by rw [eκ16, hp_kk_n ha]; exact hm a ha
  refine lv_aload_n hx hb dX6_init_24 rfl (lv_at hl 0 rfl) ?_
  refine hq_iconst hx hb dX6_init_25 (by decide) (by decide) (fun z19 ez19 => ?_)
  refine hp_newr (C := RX4) (ty := 3) (N := 4) (kd := 80) hx hb hown (hts (.classLink RX6 20 RX4) (List.mem_of_getElem? (i := 10) rfl)) hAO.1 hZ (show s.vm.findClass ("[" ++ (FieldType.object RX4).toString) = some (dA 3) from (by obtain ⟨kA, comp, q1, q2, q3, q4⟩ := (hK.2 3 _ rfl).2; exact q4)) rfl (by unfold hk_ok; omega) (fun _ k _ => trivial) (fun h => absurd h (by decide)) (by omega) (by omega) (by show 4 + 1 ≤ 65; omega) (by show 1131 + 4 ≤ 7268; omega) dX6_init_26 (fun b20 H zb20 hZ => ?_)
  refine W.cs (cells' := 5) (slots' := 1135) (by omega) (by omega) ?_
  obtain ⟨κ21, eκ21⟩ : ∃ z, z = hp_kk κ16 b20 (80) := ⟨_, rfl⟩
  rw [← eκ21] at hZ
  have k22 : κ21 h0 = 102 := by rw [eκ21, hp_kk_n (ne_k k18 zb20 (by omega))]; exact k18
  have k23 : κ21 b20 = 80 := by rw [eκ21]; exact hp_kk_s _ _ _
  have hup : ∀ a, κ21 a = 80 → a = b20 := fun a h => Classical.byContradiction fun hab => by
    by_cases ha : a = h0
    · rw [ha, k22] at h; omega
    · rw [eκ21, hp_kk_n hab] at h; exact hl_ne (hm a ha) (by decide) (by decide) h
  have hm : ∀ a, a ≠ h0 → hl_P [0, 12, 80] (κ21 a) ((κ21 a - 300) % 20 = 13) := by
    intro a ha
    by_cases hab : a = b20
    · rw [hab, k23]; exact Or.inl (by decide)
    · rw [eκ21, hp_kk_n hab]; exact (hm a ha).mono (by decide) id
  refine hp_putF (C := RX6) (T := TX6) (N := 12) (ci := 6) (kd := 102) hx hb hts iX6_init_X6 hown hK hZ.2.2.2.2 k22 (rfl : hk_t 102 = (1, 6, 12)) rfl 3 (by decide) (hts (.fieldLink RX6 22 "NeighborBook" "ports" "[LNeighborBook$Port;") (List.mem_of_getElem? (i := 11) rfl)) (fun _ h9 => h9) tyX6 tyX6_ok nmX6 (v := .ref b20) rfl rfl (by omega) hZ.1 rfl hin rfl dX6_init_29 (fun F H locs hM hO hS => ?_)
  have hZ := hp_step (k1 := 102) (k2 := 103) hZ.1 hZ.2.1 hZ.2.2.1 (Nat.le_trans hBz hS.1) hM hO hS k22 ((rfl : hk_t 103 = (1, 6, 12)).trans (rfl : hk_t 102 = (1, 6, 12)).symm) (by unfold hk_ok; omega) (by rw [(rfl : hk_t 103 = (1, 6, 12))]; decide) (fun a j hj _ h => by have := hk_sr (hZ.2.2.1 a) h hj; omega) (fun j hj h => by have := hk_sr (kd := 103) (by unfold hk_ok; omega) h hj; omega) ⟨b20, rfl, k23⟩ (fun j hj hl w hw => by
        have hl : j < 12 := by rw [(rfl : hk_t 102 = (1, 6, 12))] at hl; exact hl
        match j, hj, hl, hw with
        | 0, _, _, hw => exact hw
        | 1, _, _, hw => exact hw
        | 2, _, _, hw => exact hw
        | 4, _, _, hw => exact hw
        | 5, _, _, hw => exact hw
        | 6, _, _, hw => exact hw
        | 7, _, _, hw => exact hw
        | 8, _, _, hw => exact hw
        | 9, _, _, hw => exact hw
        | 10, _, _, hw => exact hw
        | 11, _, _, hw => exact hw
        | 3, hj, _, _ => exact absurd rfl hj) (fun h => absurd h (by decide))
  obtain ⟨κ24, eκ24⟩ : ∃ z, z = hp_kk κ21 h0 (103) := ⟨_, rfl⟩
  rw [← eκ24] at hZ
  have k25 : κ24 b20 = 80 := by rw [eκ24, hp_kk_n (fun h9 => by rw [h9, k22] at k23; omega)]; exact k23
  have k26 : κ24 h0 = 103 := by rw [eκ24]; exact hp_kk_s _ _ _
  have hm : ∀ a, a ≠ h0 → hl_P [0, 12, 80] (κ24 a) ((κ24 a - 300) % 20 = 13) := fun a ha => by rw [eκ24, hp_kk_n ha]; exact hm a ha
  have hup : ∀ a, κ24 a = 80 → a = b20 := fun a h => hup a (by by_cases ha : a = h0; (rw [ha, k26] at h; omega); (rw [eκ24, hp_kk_n ha] at h; exact h))
  refine lv_aload_n hx hb dX6_init_32 rfl (lv_at hl 0 rfl) ?_
  refine hp_newo (C := RX3) (T := TX3) (N := 2) (ci := 3) (kd := 37) hx hb hts iX6_init_X3 tyX3 tyX3_ok hown (hts (.classLink RX6 26 RX3) (List.mem_of_getElem? (i := 12) rfl)) (hts (.instantiable RX3 2) (List.mem_of_getElem? (i := 13) rfl)) (hts (.initialized RX3) (List.mem_of_getElem? (i := 14) rfl)) hK hZ rfl rfl (by unfold hk_ok; omega) (fun _ k hk => by match k, hk with | 0, _ => exact trivial | 1, _ => exact ⟨0, rfl, by decide, by decide⟩) (fun h => absurd h (by decide)) (by show 5 + 1 ≤ 65; omega) (by show 1135 + 2 ≤ 7268; omega) dX6_init_33 (fun b27 H zb27 hZ => ?_)
  refine W.cs (cells' := 6) (slots' := 1137) (by omega) (by omega) ?_
  obtain ⟨κ28, eκ28⟩ : ∃ z, z = hp_kk κ24 b27 (37) := ⟨_, rfl⟩
  rw [← eκ28] at hZ
  have k29 : κ28 h0 = 103 := by rw [eκ28, hp_kk_n (ne_k k26 zb27 (by omega))]; exact k26
  have k30 : κ28 b20 = 80 := by rw [eκ28, hp_kk_n (ne_k k25 zb27 (by omega))]; exact k25
  have k31 : κ28 b27 = 37 := by rw [eκ28]; exact hp_kk_s _ _ _
  have hup : ∀ a, κ28 a = 80 → a = b20 := fun a h => hup a (by by_cases ha : a = b27; (rw [ha, k31] at h; omega); (rw [eκ28, hp_kk_n ha] at h; exact h))
  have hm : ∀ a, a ≠ h0 → a ≠ b27 → hl_P [0, 12, 80] (κ28 a) ((κ28 a - 300) % 20 = 13) := by
    intro a ha hab
    rw [eκ28, hp_kk_n hab]; exact hm a ha
  refine lv_dup hx hb dX6_init_36 rfl ?_
  refine hp_callT (va_runI (As := []) (rest := [.ref b27, .ref h0]) ⟨hx, hb, hml, hown, hts⟩ (c_X3_init l dC dI dA κ28 B g b27 k31 hg10 (fun a h9 => by by_cases ha : a = h0; (rw [ha, k29] at h9; omega); (by_cases hab : a = b27; (rw [hab, k31] at h9; omega); (exact hl_ne (hm a ha hab) (by decide) (by decide) h9))) (fun a h9 => by by_cases ha : a = h0; (rw [ha, k29] at h9; omega); (by_cases hab : a = b27; (rw [hab, k31] at h9; omega); (exact hl_ne (hm a ha hab) (by decide) (by decide) h9))) (fun a hab => by by_cases ha : a = h0; (rw [ha, k29]; omega); (exact hl_48 (hm a ha hab) (by decide))) (fun a h9 => by by_cases ha : a = h0; (rw [ha, k29] at h9; omega); (by_cases hab : a = b27; (rw [hab, k31] at h9; omega); (have h8 := hl_col (hm a ha hab) (by decide) h9; omega)))) (cwI 0 hts gX6_init_X3_init rfl rfl rfl (hts (.initialized RX3) (List.mem_of_getElem? (i := 14) rfl)) (hts (.methodLink RX6 28 yX3_init) (List.mem_of_getElem? (i := 45) rfl)) (hts (.instanceMethod yX3_init) (List.mem_of_getElem? (i := 46) rfl)) rfl (by decide +kernel) ⟨Nat.le_of_ble_eq_true rfl, Nat.le_of_ble_eq_true rfl⟩) (hp_preT [.ref b27] hK hN hAO hZ) rfl rfl hl.1 rfl (lv_room (Nat.le_of_ble_eq_true rfl)) dX6_init_37 ⟨(by show 6 + 49 ≤ 65; omega), (by show 1137 + 5232 ≤ 7268; omega)⟩) hZ (fun κ32 H locs hDκ32 hZ => ?_)
  refine W.cs (cells' := 55) (slots' := 6369) (by omega) (by omega) ?_
  have k33 : κ32 h0 = 103 := (hDκ32.2.1 h0 (by rw [k29]; omega) (fun h9 => by rw [h9, k31] at k29; omega)).trans k29
  have k34 : κ32 b20 = 80 := (hDκ32.2.1 b20 (by rw [k30]; omega) (fun h9 => by rw [h9, k31] at k30; omega)).trans k30
  have k35 : κ32 b27 = 10 := hDκ32.1
  have hup : ∀ a, κ32 a = 80 → a = b20 := fun a h => by
    by_cases hab : a = b27
    · rw [hab, k35] at h; omega
    · by_cases hz9 : κ28 a = 0
      · have h3 : (κ32 a) = 0 ∨ (κ32 a) = 16 ∨ (300 ≤ (κ32 a) ∧ (κ32 a) < 380 ∧ ((κ32 a) < 312 ∨ 320 ≤ (κ32 a)) ∧ ((κ32 a) - 300) % 20 < 12) := hDκ32.2.2 a hz9; omega
      · exact hup a (by rw [← hDκ32.2.1 a hz9 hab]; exact h)
  have hm : ∀ a, a ≠ h0 → hl_P [0, 10, 12, 16, 80] (κ32 a) ((κ32 a - 300) % 20 < 12 ∨ (κ32 a - 300) % 20 = 13) := by
    intro a ha
    by_cases hab : a = b27
    · rw [hab, hDκ32.1]; exact Or.inl (by decide)
    · by_cases hz9 : κ28 a = 0
      · have h3 : (κ32 a) = 0 ∨ (κ32 a) = 16 ∨ (300 ≤ (κ32 a) ∧ (κ32 a) < 380 ∧ ((κ32 a) < 312 ∨ 320 ≤ (κ32 a)) ∧ ((κ32 a) - 300) % 20 < 12) := hDκ32.2.2 a hz9
        by_cases h8 : 300 ≤ κ32 a
        · exact Or.inr (by omega)
        · refine Or.inl ?_
          rcases (show κ32 a = 0 ∨ κ32 a = 16 by omega) with h7 | h7 <;> rw [h7] <;> decide
      · rw [hDκ32.2.1 a hz9 hab]; exact (hm a ha hab).mono (by decide) (fun h8 => by omega)
  refine hp_putF (C := RX6) (T := TX6) (N := 12) (ci := 6) (kd := 103) hx hb hts iX6_init_X6 hown hK hZ.2.2.2.2 k33 (rfl : hk_t 103 = (1, 6, 12)) rfl 4 (by decide) (hts (.fieldLink RX6 29 "NeighborBook" "known" "LNeighborBook$Neighbors;") (List.mem_of_getElem? (i := 15) rfl)) (fun _ h9 => h9) tyX6 tyX6_ok nmX6 (v := .ref b27) rfl rfl (by omega) hZ.1 rfl hin rfl dX6_init_40 (fun F H locs hM hO hS => ?_)
  have hZ := hp_step (k1 := 103) (k2 := 104) hZ.1 hZ.2.1 hZ.2.2.1 (Nat.le_trans hBz hS.1) hM hO hS k33 ((rfl : hk_t 104 = (1, 6, 12)).trans (rfl : hk_t 103 = (1, 6, 12)).symm) (by unfold hk_ok; omega) (by rw [(rfl : hk_t 104 = (1, 6, 12))]; decide) (fun a j hj _ h => by have := hk_sr (hZ.2.2.1 a) h hj; omega) (fun j hj h => by have := hk_sr (kd := 104) (by unfold hk_ok; omega) h hj; omega) ⟨b27, rfl, k35⟩ (fun j hj hl w hw => by
        have hl : j < 12 := by rw [(rfl : hk_t 103 = (1, 6, 12))] at hl; exact hl
        match j, hj, hl, hw with
        | 0, _, _, hw => exact hw
        | 1, _, _, hw => exact hw
        | 2, _, _, hw => exact hw
        | 3, _, _, hw => exact hw
        | 5, _, _, hw => exact hw
        | 6, _, _, hw => exact hw
        | 7, _, _, hw => exact hw
        | 8, _, _, hw => exact hw
        | 9, _, _, hw => exact hw
        | 10, _, _, hw => exact hw
        | 11, _, _, hw => exact hw
        | 4, hj, _, _ => exact absurd rfl hj) (fun h => absurd h (by decide))
  obtain ⟨κ36, eκ36⟩ : ∃ z, z = hp_kk κ32 h0 (104) := ⟨_, rfl⟩
  rw [← eκ36] at hZ
  have k37 : κ36 b20 = 80 := by rw [eκ36, hp_kk_n (fun h9 => by rw [h9, k33] at k34; omega)]; exact k34
  have k38 : κ36 b27 = 10 := by rw [eκ36, hp_kk_n (fun h9 => by rw [h9, k33] at k35; omega)]; exact k35
  have k39 : κ36 h0 = 104 := by rw [eκ36]; exact hp_kk_s _ _ _
  have hm : ∀ a, a ≠ h0 → hl_P [0, 10, 12, 16, 80] (κ36 a) ((κ36 a - 300) % 20 < 12 ∨ (κ36 a - 300) % 20 = 13) := fun a ha => by rw [eκ36, hp_kk_n ha]; exact hm a ha
  have hup : ∀ a, κ36 a = 80 → a = b20 := fun a h => hup a (by by_cases ha : a = h0; (rw [ha, k39] at h; omega); (rw [eκ36, hp_kk_n ha] at h; exact h))
  refine lv_aload_n hx hb dX6_init_43 rfl (lv_at hl 0 rfl) ?_
  refine hp_newo (C := RX1) (T := TX1) (N := 2) (ci := 1) (kd := 33) hx hb hts iX6_init_X1 tyX1 tyX1_ok hown (hts (.classLink RX6 33 RX1) (List.mem_of_getElem? (i := 16) rfl)) (hts (.instantiable RX1 2) (List.mem_of_getElem? (i := 17) rfl)) (hts (.initialized RX1) (List.mem_of_getElem? (i := 18) rfl)) hK hZ rfl rfl (by unfold hk_ok; omega) (fun _ k hk => by match k, hk with | 0, _ => exact trivial | 1, _ => exact ⟨0, rfl, by decide, by decide⟩) (fun h => absurd h (by decide)) (by show 55 + 1 ≤ 65; omega) (by show 6369 + 2 ≤ 7268; omega) dX6_init_44 (fun b40 H zb40 hZ => ?_)
  refine W.cs (cells' := 56) (slots' := 6371) (by omega) (by omega) ?_
  obtain ⟨κ41, eκ41⟩ : ∃ z, z = hp_kk κ36 b40 (33) := ⟨_, rfl⟩
  rw [← eκ41] at hZ
  have k42 : κ41 h0 = 104 := by rw [eκ41, hp_kk_n (ne_k k39 zb40 (by omega))]; exact k39
  have k43 : κ41 b20 = 80 := by rw [eκ41, hp_kk_n (ne_k k37 zb40 (by omega))]; exact k37
  have k44 : κ41 b40 = 33 := by rw [eκ41]; exact hp_kk_s _ _ _
  have hup : ∀ a, κ41 a = 80 → a = b20 := fun a h => hup a (by by_cases ha : a = b40; (rw [ha, k44] at h; omega); (rw [eκ41, hp_kk_n ha] at h; exact h))
  have hm : ∀ a, a ≠ h0 → a ≠ b40 → hl_P [0, 10, 12, 16, 80] (κ41 a) ((κ41 a - 300) % 20 < 12 ∨ (κ41 a - 300) % 20 = 13) := by
    intro a ha hab
    rw [eκ41, hp_kk_n hab]; exact hm a ha
  refine lv_dup hx hb dX6_init_47 rfl ?_
  refine hp_callT (va_runIN (As := []) (rest := [.ref b40, .ref h0]) ⟨hx, hb, hml, hown, hts⟩ (c_X1_init l dC dI dA κ41 B g b40 k44 (fun a => by by_cases ha : a = h0; (rw [ha, k42]; omega); (by_cases hab : a = b40; (rw [hab, k44]; omega); (have h7 := hl_ne (c := 3) (hm a ha hab) (by decide) (by decide); have h8 := hl_col (hm a ha hab) (by decide); omega)))) ⟨va_cnB 0 hts gX6_init_X1_init_n35 rfl rfl rfl (hN _ (List.mem_of_getElem? (i := 1) rfl)) (hts (.initialized RX1) (List.mem_of_getElem? (i := 18) rfl)) (by decide +kernel) ⟨Nat.le_of_ble_eq_true rfl, Nat.le_of_ble_eq_true rfl⟩, rfl, (hts (.instanceMethod yX1_init) (List.mem_of_getElem? (i := 59) rfl))⟩ (hp_preT [.ref b40] hK hN hAO hZ) rfl rfl hl.1 rfl (lv_room (Nat.le_of_ble_eq_true rfl)) dX6_init_48 ⟨(by show 56 + 3 ≤ 65; omega), (by show 6371 + 431 ≤ 7268; omega)⟩) hZ (fun κ45 H locs hDκ45 hZ => ?_)
  refine W.cs (cells' := 59) (slots' := 6802) (by omega) (by omega) ?_
  have k46 : κ45 h0 = 104 := (hDκ45.2.1 h0 (by rw [k42]; omega) (fun h9 => by rw [h9, k44] at k42; omega)).trans k42
  have k47 : κ45 b20 = 80 := (hDκ45.2.1 b20 (by rw [k43]; omega) (fun h9 => by rw [h9, k44] at k43; omega)).trans k43
  have k48 : κ45 b40 = 3 := hDκ45.1
  have hup : ∀ a, κ45 a = 80 → a = b20 := fun a h => by
    by_cases hab : a = b40
    · rw [hab, k48] at h; omega
    · by_cases hz9 : κ41 a = 0
      · have h3 : (κ45 a) = 0 ∨ (κ45 a) = 320 + 12 ∨ (κ45 a) = 340 + 12 ∨ (κ45 a) = 360 + 12 := hDκ45.2.2 a hz9; omega
      · exact hup a (by rw [← hDκ45.2.1 a hz9 hab]; exact h)
  have hm : ∀ a, a ≠ h0 → hl_P [0, 3, 10, 12, 16, 80] (κ45 a) ((κ45 a - 300) % 20 < 14) := by
    intro a ha
    by_cases hab : a = b40
    · rw [hab, hDκ45.1]; exact Or.inl (by decide)
    · by_cases hz9 : κ41 a = 0
      · have h3 : (κ45 a) = 0 ∨ (κ45 a) = 320 + 12 ∨ (κ45 a) = 340 + 12 ∨ (κ45 a) = 360 + 12 := hDκ45.2.2 a hz9
        by_cases h8 : 300 ≤ κ45 a
        · exact Or.inr (by omega)
        · refine Or.inl ?_
          rcases (show κ45 a = 0 by omega) with h7 <;> rw [h7] <;> decide
      · rw [hDκ45.2.1 a hz9 hab]; exact (hm a ha hab).mono (by decide) (fun h8 => by omega)
  refine hp_putF (C := RX6) (T := TX6) (N := 12) (ci := 6) (kd := 104) hx hb hts iX6_init_X6 hown hK hZ.2.2.2.2 k46 (rfl : hk_t 104 = (1, 6, 12)) rfl 5 (by decide) (hts (.fieldLink RX6 36 "NeighborBook" "reader" "LNeighborBook$FrameReader;") (List.mem_of_getElem? (i := 19) rfl)) (fun _ h9 => h9) tyX6 tyX6_ok nmX6 (v := .ref b40) rfl rfl (by omega) hZ.1 rfl hin rfl dX6_init_51 (fun F H locs hM hO hS => ?_)
  have hZ := hp_step (k1 := 104) (k2 := 105) hZ.1 hZ.2.1 hZ.2.2.1 (Nat.le_trans hBz hS.1) hM hO hS k46 ((rfl : hk_t 105 = (1, 6, 12)).trans (rfl : hk_t 104 = (1, 6, 12)).symm) (by unfold hk_ok; omega) (by rw [(rfl : hk_t 105 = (1, 6, 12))]; decide) (fun a j hj _ h => by have := hk_sr (hZ.2.2.1 a) h hj; omega) (fun j hj h => by have := hk_sr (kd := 105) (by unfold hk_ok; omega) h hj; omega) ⟨b40, rfl, k48⟩ (fun j hj hl w hw => by
        have hl : j < 12 := by rw [(rfl : hk_t 104 = (1, 6, 12))] at hl; exact hl
        match j, hj, hl, hw with
        | 0, _, _, hw => exact hw
        | 1, _, _, hw => exact hw
        | 2, _, _, hw => exact hw
        | 3, _, _, hw => exact hw
        | 4, _, _, hw => exact hw
        | 6, _, _, hw => exact hw
        | 7, _, _, hw => exact hw
        | 8, _, _, hw => exact hw
        | 9, _, _, hw => exact hw
        | 10, _, _, hw => exact hw
        | 11, _, _, hw => exact hw
        | 5, hj, _, _ => exact absurd rfl hj) (fun h => absurd h (by decide))
  obtain ⟨κ49, eκ49⟩ : ∃ z, z = hp_kk κ45 h0 (105) := ⟨_, rfl⟩
  rw [← eκ49] at hZ
  have k50 : κ49 b20 = 80 := by rw [eκ49, hp_kk_n (fun h9 => by rw [h9, k46] at k47; omega)]; exact k47
  have k51 : κ49 b40 = 3 := by rw [eκ49, hp_kk_n (fun h9 => by rw [h9, k46] at k48; omega)]; exact k48
  have k52 : κ49 h0 = 105 := by rw [eκ49]; exact hp_kk_s _ _ _
  have hm : ∀ a, a ≠ h0 → hl_P [0, 3, 10, 12, 16, 80] (κ49 a) ((κ49 a - 300) % 20 < 14) := fun a ha => by rw [eκ49, hp_kk_n ha]; exact hm a ha
  have hup : ∀ a, κ49 a = 80 → a = b20 := fun a h => hup a (by by_cases ha : a = h0; (rw [ha, k52] at h; omega); (rw [eκ49, hp_kk_n ha] at h; exact h))
  refine lv_aload_n hx hb dX6_init_54 rfl (lv_at hl 0 rfl) ?_
  refine hp_newo (C := RX5) (T := TX5) (N := 3) (ci := 5) (kd := 34) hx hb hts iX6_init_X5 tyX5 tyX5_ok hown (hts (.classLink RX6 40 RX5) (List.mem_of_getElem? (i := 20) rfl)) (hts (.instantiable RX5 3) (List.mem_of_getElem? (i := 21) rfl)) (hts (.initialized RX5) (List.mem_of_getElem? (i := 22) rfl)) hK hZ rfl rfl (by unfold hk_ok; omega) (fun _ k hk => by match k, hk with | 0, _ => exact trivial | 1, _ => exact ⟨0, rfl, by decide, by decide⟩ | 2, _ => exact ⟨0, rfl, trivial⟩) (fun h => absurd h (by decide)) (by show 59 + 1 ≤ 65; omega) (by show 6802 + 3 ≤ 7268; omega) dX6_init_55 (fun b53 H zb53 hZ => ?_)
  refine W.cs (cells' := 60) (slots' := 6805) (by omega) (by omega) ?_
  obtain ⟨κ54, eκ54⟩ : ∃ z, z = hp_kk κ49 b53 (34) := ⟨_, rfl⟩
  rw [← eκ54] at hZ
  have k55 : κ54 h0 = 105 := by rw [eκ54, hp_kk_n (ne_k k52 zb53 (by omega))]; exact k52
  have k56 : κ54 b20 = 80 := by rw [eκ54, hp_kk_n (ne_k k50 zb53 (by omega))]; exact k50
  have k57 : κ54 b53 = 34 := by rw [eκ54]; exact hp_kk_s _ _ _
  have hup : ∀ a, κ54 a = 80 → a = b20 := fun a h => hup a (by by_cases ha : a = b53; (rw [ha, k57] at h; omega); (rw [eκ54, hp_kk_n ha] at h; exact h))
  have hm : ∀ a, a ≠ h0 → a ≠ b53 → hl_P [0, 3, 10, 12, 16, 80] (κ54 a) ((κ54 a - 300) % 20 < 14) := by
    intro a ha hab
    rw [eκ54, hp_kk_n hab]; exact hm a ha
  refine lv_dup hx hb dX6_init_58 rfl ?_
  refine hp_callT (va_runIN (As := []) (rest := [.ref b53, .ref h0]) ⟨hx, hb, hml, hown, hts⟩ (c_X5_init l dC dI dA κ54 B g b53 k57 (fun a b9 h9 => by rw [h9.1, h9.2]; exact hg4) hg42 (fun a h9 => by by_cases ha : a = h0; (rw [ha, k55] at h9; omega); (by_cases hab : a = b53; (rw [hab, k57] at h9; omega); (exact hl_ne (hm a ha hab) (by decide) (by decide) h9)))) ⟨va_cnB 0 hts gX6_init_X5_init_n42 rfl rfl rfl (hN _ (List.mem_of_getElem? (i := 2) rfl)) (hts (.initialized RX5) (List.mem_of_getElem? (i := 22) rfl)) (by decide +kernel) ⟨Nat.le_of_ble_eq_true rfl, Nat.le_of_ble_eq_true rfl⟩, rfl, (hts (.instanceMethod yX5_init) (List.mem_of_getElem? (i := 65) rfl))⟩ (hp_preT [.ref b53] hK hN hAO hZ) rfl rfl hl.1 rfl (lv_room (Nat.le_of_ble_eq_true rfl)) dX6_init_59 ⟨(by show 60 + 1 ≤ 65; omega), (by show 6805 + 439 ≤ 7268; omega)⟩) hZ (fun κ58 H locs hDκ58 hZ => ?_)
  refine W.cs (cells' := 61) (slots' := 7244) (by omega) (by omega) ?_
  have k59 : κ58 h0 = 105 := (hDκ58.2.1 h0 (by rw [k55]; omega) (fun h9 => by rw [h9, k57] at k55; omega)).trans k55
  have k60 : κ58 b20 = 80 := (hDκ58.2.1 b20 (by rw [k56]; omega) (fun h9 => by rw [h9, k57] at k56; omega)).trans k56
  have k61 : κ58 b53 = 4 := hDκ58.1
  have hup : ∀ a, κ58 a = 80 → a = b20 := fun a h => by
    by_cases hab : a = b53
    · rw [hab, k61] at h; omega
    · by_cases hz9 : κ54 a = 0
      · have h3 : (κ58 a) = 0 ∨ (κ58 a) = 17 := hDκ58.2.2 a hz9; omega
      · exact hup a (by rw [← hDκ58.2.1 a hz9 hab]; exact h)
  have hm : ∀ a, a ≠ h0 → hl_P [0, 3, 4, 10, 12, 16, 17, 80] (κ58 a) ((κ58 a - 300) % 20 < 14) := by
    intro a ha
    by_cases hab : a = b53
    · rw [hab, hDκ58.1]; exact Or.inl (by decide)
    · by_cases hz9 : κ54 a = 0
      · have h3 : (κ58 a) = 0 ∨ (κ58 a) = 17 := hDκ58.2.2 a hz9
        by_cases h8 : 300 ≤ κ58 a
        · exact Or.inr (by omega)
        · refine Or.inl ?_
          rcases (show κ58 a = 0 ∨ κ58 a = 17 by omega) with h7 | h7 <;> rw [h7] <;> decide
      · rw [hDκ58.2.1 a hz9 hab]; exact (hm a ha hab).mono (by decide) (fun h8 => by omega)
  refine hp_putF (C := RX6) (T := TX6) (N := 12) (ci := 6) (kd := 105) hx hb hts iX6_init_X6 hown hK hZ.2.2.2.2 k59 (rfl : hk_t 105 = (1, 6, 12)) rfl 6 (by decide) (hts (.fieldLink RX6 43 "NeighborBook" "latest" "LNeighborBook$SentFrame;") (List.mem_of_getElem? (i := 23) rfl)) (fun _ h9 => h9) tyX6 tyX6_ok nmX6 (v := .ref b53) rfl rfl (by omega) hZ.1 rfl hin rfl dX6_init_62 (fun F H locs hM hO hS => ?_)
  have hZ := hp_step (k1 := 105) (k2 := 110) hZ.1 hZ.2.1 hZ.2.2.1 (Nat.le_trans hBz hS.1) hM hO hS k59 ((rfl : hk_t 110 = (1, 6, 12)).trans (rfl : hk_t 105 = (1, 6, 12)).symm) (by unfold hk_ok; omega) (by rw [(rfl : hk_t 110 = (1, 6, 12))]; decide) (fun a j hj _ h => by have := hk_sr (hZ.2.2.1 a) h hj; omega) (fun j hj h => by have := hk_sr (kd := 110) (by unfold hk_ok; omega) h hj; omega) ⟨b53, rfl, k61⟩ (fun j hj hl w hw => by
        have hl : j < 12 := by rw [(rfl : hk_t 105 = (1, 6, 12))] at hl; exact hl
        match j, hj, hl, hw with
        | 0, _, _, hw => exact hw
        | 1, _, _, hw => exact hw
        | 2, _, _, hw => exact hw
        | 3, _, _, hw => exact hw
        | 4, _, _, hw => exact hw
        | 5, _, _, hw => exact hw
        | 7, _, _, hw => exact hw
        | 8, _, _, hw => exact hw
        | 9, _, _, hw => exact hw
        | 10, _, _, hw => exact hw
        | 11, _, _, hw => exact hw
        | 6, hj, _, _ => exact absurd rfl hj) (fun h => absurd h (by decide))
  obtain ⟨κ62, eκ62⟩ : ∃ z, z = hp_kk κ58 h0 (110) := ⟨_, rfl⟩
  rw [← eκ62] at hZ
  have k63 : κ62 b20 = 80 := by rw [eκ62, hp_kk_n (fun h9 => by rw [h9, k59] at k60; omega)]; exact k60
  have k64 : κ62 b53 = 4 := by rw [eκ62, hp_kk_n (fun h9 => by rw [h9, k59] at k61; omega)]; exact k61
  have k65 : κ62 h0 = 110 := by rw [eκ62]; exact hp_kk_s _ _ _
  have hm : ∀ a, a ≠ h0 → hl_P [0, 3, 4, 10, 12, 16, 17, 80] (κ62 a) ((κ62 a - 300) % 20 < 14) := fun a ha => by rw [eκ62, hp_kk_n ha]; exact hm a ha
  have hup : ∀ a, κ62 a = 80 → a = b20 := fun a h => hup a (by by_cases ha : a = h0; (rw [ha, k65] at h; omega); (rw [eκ62, hp_kk_n ha] at h; exact h))
  refine lv_aload_n hx hb dX6_init_65 rfl (lv_at hl 0 rfl) ?_
  refine hq_bipush hx hb dX6_init_66 (by decide) (fun z66 ez66 => ?_)
  refine hp_put (C := RX6) (T := TX6) (N := 12) (ci := 6) (kd := 110) hx hb hts iX6_init_X6 hown hK hZ.2.2.2.2 k65 rfl rfl 7 (by decide) (hts (.fieldLink RX6 47 "NeighborBook" "interval" "I") (List.mem_of_getElem? (i := 24) rfl)) (fun _ h9 => h9) tyX6 tyX6_ok nmX6 (v := .int z66) rfl rfl (by decide) hZ.1 rfl (hs_i_ok (sp := (1, 0)) rfl trivial) dX6_init_68 (fun H locs hJ => ?_)
  have hZ := (⟨hZ.1, hZ.2.1, hZ.2.2.1, Nat.le_trans hBz hJ.2.1, hJ⟩ : hp_Z dC dI dA κ62 B g s.heap H locs)
  refine lv_aload_n hx hb dX6_init_71 rfl (lv_at hl 0 rfl) ?_
  refine hq_iconst hx hb dX6_init_72 (by decide) (by decide) (fun z67 ez67 => ?_)
  refine hp_put (C := RX6) (T := TX6) (N := 12) (ci := 6) (kd := 110) hx hb hts iX6_init_X6 hown hK hZ.2.2.2.2 k65 rfl rfl 8 (by decide) (hts (.fieldLink RX6 51 "NeighborBook" "hold" "I") (List.mem_of_getElem? (i := 25) rfl)) (fun _ h9 => h9) tyX6 tyX6_ok nmX6 (v := .int z67) rfl rfl (by decide) hZ.1 rfl (hs_i_ok (sp := (1, 0)) rfl trivial) dX6_init_73 (fun H locs hJ => ?_)
  have hZ := (⟨hZ.1, hZ.2.1, hZ.2.2.1, Nat.le_trans hBz hJ.2.1, hJ⟩ : hp_Z dC dI dA κ62 B g s.heap H locs)
  refine lv_aload_n hx hb dX6_init_76 rfl (lv_at hl 0 rfl) ?_
  refine hq_iconst hx hb dX6_init_77 (by decide) (by decide) (fun z68 ez68 => ?_)
  refine hp_put (C := RX6) (T := TX6) (N := 12) (ci := 6) (kd := 110) hx hb hts iX6_init_X6 hown hK hZ.2.2.2.2 k65 rfl rfl 9 (by decide) (hts (.fieldLink RX6 54 "NeighborBook" "quick" "I") (List.mem_of_getElem? (i := 26) rfl)) (fun _ h9 => h9) tyX6 tyX6_ok nmX6 (v := .int z68) rfl rfl (by decide) hZ.1 rfl (hs_i_ok (sp := (1, 0)) rfl trivial) dX6_init_78 (fun H locs hJ => ?_)
  have hZ := (⟨hZ.1, hZ.2.1, hZ.2.2.1, Nat.le_trans hBz hJ.2.1, hJ⟩ : hp_Z dC dI dA κ62 B g s.heap H locs)
  refine hq_iconst hx hb dX6_init_81 (by decide) (by decide) (fun z69 ez69 => ?_)
  refine lv_istore_n (lv' := [(1, .int z69), (0, .ref h0)]) hx hb dX6_init_82 rfl hl (by decide) rfl (fun ls hl => ?_)
  exact lp_X6_init l hx hb hr hts hown hlocks hml hK hN hAO hBz hZs hT hg1 hgp 5 0 z69 κ62 _ _ ls (by omega) (by omega) (by omega) k65 k63 (fun a ha hab => Or.inl (hl_rm (hm a ha) (fun h9 => hab (hup a h9)) (by decide))) hZ (lv_sub hl [1, 0] rfl)
