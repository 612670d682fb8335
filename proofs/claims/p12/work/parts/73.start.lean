def hg_0 : Nat → Nat → Int := fun a b => if (a = 4 ∧ b = 2) ∨ (a = 11 ∧ b = 23) then -1 else 0
theorem hg_0z {a b : Nat} (h1 : ¬ (a = 4 ∧ b = 2)) (h2 : ¬ (a = 11 ∧ b = 23)) : hg_0 a b = 0 := if_neg (fun h => h.elim h1 h2)
theorem law_arr {s : State} {args : Array Value} {ty : FieldType} (h : (Cond.arrayClass ty).before args s = true) (hty : ∀ C, ty ≠ .object C) : ∃ cA : ClassId, ArrOfT s cA ty ∧ va_RA s cA ty := by
  obtain ⟨cA, kA, comp, h1, h2, h3⟩ := Cond.arrayClass_spec h
  refine ⟨cA, fun n z => ⟨fun k h => (by cases h), kA, h2, comp, h3⟩, ?_⟩
  cases ty with
  | object C => exact absurd rfl (hty C)
  | _ => exact h1
theorem law_arrO {s : State} {args : Array Value} {C : String} (h : (Cond.arrayOver (.object C)).before args s = true) : ∃ cA : ClassId, ArrOfT s cA (.object C) ∧ va_RA s cA (.object C) := by
  obtain ⟨comp, cA, kA, h1, -, h3, h4, h5⟩ := Cond.arrayOver_spec h
  exact ⟨cA, fun n z => ⟨fun k h => (by cases h), kA, h3, comp, h4⟩, kA, comp, h3, h4, h1, h5⟩
theorem law_preB {dC : Nat → ClassId} {dI : Nat → Nat → Nat} {dA : Nat → ClassId} {κ : Nat → Nat} {B : Nat} {g : Nat → Nat → Int} {H : Heap} {locs : List Loc} {s : State} {x tF : Nat} (hK : va_K (dC, dI) vwCl (hp_ty dA) s) (hN : hp_N s) (hAO : va_AO RX4 s ∧ va_AO RX2 s) (hZ : hp_Z dC dI dA κ B g s.heap H locs) (hZs : va_Z RX6 "FIRST_NAME" "[B" (.ref tF) (hp_A B) s s.heap) (hT : va_T .byte tF 2 (fun _ => .int 0) (hp_A B) s s.heap) : PreS s H (va_Pc [.ref x] (fun U => hp_T dC dI dA κ B g U ∧ va_Z RX6 "FIRST_NAME" "[B" (.ref tF) (hp_A B) U U.heap ∧ va_T .byte tF 2 (fun _ => .int 0) (hp_A B) U U.heap)) [.ref x] := by
  have hq : ∀ a : Nat, a < s.heap.size → ¬ hp_A B a → H[a]? = s.heap[a]? := fun a h1 h2 => hZ.2.2.2.2.2.2.1 a h1 h2
  refine ⟨fun a U f mk h => ?_, fun U hU hw => ⟨rfl, hp_T.of hK hN hAO hZ hU hw, ?_, ?_⟩⟩
  · obtain ⟨h0, ⟨⟨h1, h2, h3, h4⟩, h5, h6, h7, h8, h9⟩, z1, z2⟩ := h
    exact ⟨h0, ⟨⟨va_K.moved (u := U) (U := U.calling f mk a) (Vm.Alike.refl U.vm) h1, hp_N.same rfl h2, h3, h4⟩, h5, h6, h7, va_AO.moved (u := U) (U := U.calling f mk a) (Vm.Alike.refl U.vm) h8, va_AO.moved (u := U) (U := U.calling f mk a) (Vm.Alike.refl U.vm) h9⟩, va_Z.moved (u := U) (U := U.calling f mk a) (Vm.Alike.refl U.vm) z1, va_T.moved (u := U) (U := U.calling f mk a) (Vm.Alike.refl U.vm) z2⟩
  · rw [hU]
    exact (va_Z.moved hw.alike hZs).kept hq
  · rw [hU]
    exact (va_T.moved hw.alike hT).kept hq
set_option maxRecDepth 100000 in
set_option maxHeartbeats 8000000 in
theorem whole_start {p : Program} {e : Env} {s : State} {m : MethodId} {below : List Frame} {meth : Method} {c : Code} (l : Launch) {b L : Nat} {xs : Nat → Int32} (hL : L ≤ 2048) (C0 : lw_At p s m meth c b L xs) : W p l e room_1 s m #[Value.ref b] below meth c s.heap [] 0 0 (lw_Z below #[Value.ref b] s) (entryFrame m ([Value.ref b] : List Value).toArray 4) := by
  obtain ⟨hx, hb, hr, hml, hown, hts0, hX, hbl, hlocks, hgv⟩ := id C0
  have hts : ∀ w ∈ wsL_law, w.before #[Value.ref b] s = true := fun w h => hts0 w (wsL_law_in w h)
  obtain ⟨c0, iS0, hKn0⟩ := u_known (C := RX0) (T := TX0) (N := 2) (n := 2) hts0 inX0 (hts (.instantiable RX0 2) (List.mem_of_getElem? (i := 16) rfl))
  obtain ⟨c1, iS1, hKn1⟩ := u_known (C := RX1) (T := TX1) (N := 2) (n := 2) hts0 inX1 (hts (.instantiable RX1 2) (List.mem_of_getElem? (i := 26) rfl))
  obtain ⟨c2, iS2, hKn2⟩ := u_known (C := RX2) (T := TX2) (N := 4) (n := 4) hts0 inX2 (hts (.instantiable RX2 4) (List.mem_of_getElem? (i := 60) rfl))
  obtain ⟨c3, iS3, hKn3⟩ := u_known (C := RX3) (T := TX3) (N := 2) (n := 2) hts0 inX3 (hts (.instantiable RX3 2) (List.mem_of_getElem? (i := 22) rfl))
  obtain ⟨c4, iS4, hKn4⟩ := u_known (C := RX4) (T := TX4) (N := 6) (n := 6) hts0 inX4 (hts (.instantiable RX4 6) (List.mem_of_getElem? (i := 36) rfl))
  obtain ⟨c5, iS5, hKn5⟩ := u_known (C := RX5) (T := TX5) (N := 3) (n := 3) hts0 inX5 (hts (.instantiable RX5 3) (List.mem_of_getElem? (i := 30) rfl))
  obtain ⟨c6, iS6, hKn6⟩ := u_known (C := RX6) (T := TX6) (N := 12) (n := 12) hts0 inX6 (hts (.instantiable RX6 12) (List.mem_of_getElem? (i := 1) rfl))
  obtain ⟨c7, iS7, hKn7⟩ := u_known (C := RX7) (T := TX7) (N := 24) (n := 24) hts0 inX7 (hts (.instantiable RX7 24) (List.mem_of_getElem? (i := 4) rfl))
  obtain ⟨dC, dI, hKc⟩ : ∃ (dC : Nat → ClassId) (dI : Nat → Nat → Nat), ∀ (k : Nat) (q : vw_C), vwCl[k]? = some q → u_Kn s q.1 q.2.1 q.2.2 (dC k) (dI k) := by
    refine ⟨fun k => if k = 0 then c0 else if k = 1 then c1 else if k = 2 then c2 else if k = 3 then c3 else if k = 4 then c4 else if k = 5 then c5 else if k = 6 then c6 else c7, fun k => if k = 0 then iS0 else if k = 1 then iS1 else if k = 2 then iS2 else if k = 3 then iS3 else if k = 4 then iS4 else if k = 5 then iS5 else if k = 6 then iS6 else iS7, ?_⟩
    intro k q hq
    match k, hq with
    | 0, hq => cases hq; exact hKn0
    | 1, hq => cases hq; exact hKn1
    | 2, hq => cases hq; exact hKn2
    | 3, hq => cases hq; exact hKn3
    | 4, hq => cases hq; exact hKn4
    | 5, hq => cases hq; exact hKn5
    | 6, hq => cases hq; exact hKn6
    | 7, hq => cases hq; exact hKn7
    | k + 8, hq => simp [vwCl] at hq
  obtain ⟨a0, hA0⟩ := law_arr (hts (.arrayClass .int) (List.mem_of_getElem? (i := 43) rfl)) (fun C h => by cases h)
  obtain ⟨a1, hA1⟩ := law_arr (hts (.arrayClass .byte) (List.mem_of_getElem? (i := 13) rfl)) (fun C h => by cases h)
  obtain ⟨a2, hA2⟩ := law_arr (hts (.arrayClass .boolean) (List.mem_of_getElem? (i := 108) rfl)) (fun C h => by cases h)
  have hAOp : (Cond.arrayOver (.object RX4)).before #[Value.ref b] s = true := hts0 _ (List.mem_append_right _ (by decide +kernel))
  have hAOn : (Cond.arrayOver (.object RX2)).before #[Value.ref b] s = true := hts0 _ (List.mem_append_right _ (by decide +kernel))
  obtain ⟨a3, hA3⟩ := law_arrO hAOp
  obtain ⟨a4, hA4⟩ := law_arrO hAOn
  have hAO : va_AO RX4 s ∧ va_AO RX2 s := ⟨va_AO.of hAOp, va_AO.of hAOn⟩
  obtain ⟨dA, hdA⟩ : ∃ dA : Nat → ClassId, ∀ (k : Nat) (q : ClassId × FieldType), (hp_ty dA)[k]? = some q → ArrOfT s q.1 q.2 ∧ va_RA s q.1 q.2 := by
    refine ⟨fun k => if k = 0 then a0 else if k = 1 then a1 else if k = 2 then a2 else if k = 3 then a3 else a4, ?_⟩
    intro k q hq
    match k, hq with
    | 0, hq => cases hq; exact hA0
    | 1, hq => cases hq; exact hA1
    | 2, hq => cases hq; exact hA2
    | 3, hq => cases hq; exact hA3
    | 4, hq => cases hq; exact hA4
    | k + 5, hq => simp [hp_ty] at hq
  have hK : va_K (dC, dI) vwCl (hp_ty dA) s := ⟨hKc, hdA⟩
  have hN : hp_N s := by
    unfold hp_N hp_nl
    refine List.forall_mem_cons.mpr ⟨va_Nw.of rfl (hts0 _ (List.mem_append_right _ (by decide +kernel))), List.forall_mem_cons.mpr ⟨va_Nw.of rfl (hts0 _ (List.mem_append_right _ (by decide +kernel))), List.forall_mem_cons.mpr ⟨va_Nw.of rfl (hts0 _ (List.mem_append_right _ (by decide +kernel))), List.forall_mem_cons.mpr ⟨va_Nw.of rfl (hts0 _ (List.mem_append_right _ (by decide +kernel))), List.forall_mem_cons.mpr ⟨va_Nw.of rfl (hts0 _ (List.mem_append_right _ (by decide +kernel))), List.forall_mem_cons.mpr ⟨va_Nw.of rfl (hts0 _ (List.mem_append_right _ (by decide +kernel))), fun _ h => absurd h List.not_mem_nil⟩⟩⟩⟩⟩⟩
  have hs := flat_of_before _ hgv
  have hnA : ∀ a : Nat, a < s.heap.size → ¬ hp_A s.heap.size a := fun a h => Nat.not_le.mpr h
  obtain ⟨tF, htF, hT⟩ := va_Tof (tm := .static RX6 "FIRST_NAME" "[B") (ty := .byte) (N := 2) (f := fun _ => .int 0) (A := hp_A s.heap.size) (by decide) (hs _ (by decide +kernel)) (va_eqt (z := 2) (hs _ (by decide +kernel))) (fun j hj => by
    match j, hj with
    | 0, _ => exact va_eqt (z := 0) (hs _ (by decide +kernel))
    | 1, _ => exact va_eqt (z := 0) (hs _ (by decide +kernel))) hnA
  have hZs : va_Z RX6 "FIRST_NAME" "[B" (.ref tF) (hp_A s.heap.size) s s.heap := va_Zof (hts0 _ (List.mem_append_right _ (by decide +kernel))) (hts (.initialized RX6) (List.mem_of_getElem? (i := 2) rfl)) htF hnA
  have hZ : hp_Z dC dI dA (fun _ => 0) s.heap.size hg_0 s.heap s.heap [] := ⟨⟨fun a h => absurd rfl h, fun a b h => absurd (show hk_x 0 = true from h) (by decide)⟩, fun _ => Or.inl rfl, fun _ => Or.inl (show 0 < 40 by decide), Nat.le_refl _, ⟨fun _ _ => .null, fun _ => trivial, fun a k hk => absurd hk (Nat.not_lt_zero k)⟩, va_S.rf⟩
  have hl := lv_entry ([Value.ref b]) (n := 4) (Nat.le_of_ble_eq_true rfl)
  rw [lg_entry_eq]
  generalize (lg_sl ([Value.ref b]) ++ List.replicate (4 - (lg_sl ([Value.ref b])).length) Slot.unset).toArray = ls at hl ⊢
  have hl : lv_has ls 4 [(0, .ref b)] := hl
  refine hp_newo (C := RX6) (T := TX6) (N := 12) (ci := 6) (kd := 100) hx hb hts inlX6 tyX6 tyX6_ok hown (hts (.classLink RL 7 RX6) (List.mem_of_getElem? (i := 0) rfl)) (hts (.instantiable RX6 12) (List.mem_of_getElem? (i := 1) rfl)) (hts (.initialized RX6) (List.mem_of_getElem? (i := 2) rfl)) hK hZ rfl rfl (by unfold hk_ok; omega) (fun _ k hk => by match k, hk with | 0, _ => exact trivial | 1, _ => exact ⟨0, rfl, by decide, by decide⟩ | 2, _ => exact trivial | 3, _ => exact trivial | 4, _ => exact trivial | 5, _ => exact trivial | 6, _ => exact trivial | 7, _ => exact ⟨0, rfl, trivial⟩ | 8, _ => exact ⟨0, rfl, trivial⟩ | 9, _ => exact ⟨0, rfl, trivial⟩ | 10, _ => exact ⟨0, rfl, by decide, by decide⟩ | 11, _ => exact ⟨0, rfl, by decide, by decide⟩) (fun h => absurd h (by decide)) (by show 0 + 1 ≤ 600000; omega) (by show 0 + 12 ≤ 7302250; omega) dL_law_0 (fun x H zx hZ => ?_)
  obtain ⟨κ1, e1⟩ : ∃ z, z = hp_kk (fun _ => 0) x 100 := ⟨_, rfl⟩
  rw [← e1] at hZ
  have kx1 : κ1 x = 100 := by rw [e1]; exact hp_kk_s _ _ _
  have hz1 : ∀ a, a ≠ x → κ1 a = 0 := fun a ha => by rw [e1, hp_kk_n ha]
  refine lv_dup hx hb dL_law_3 rfl ?_
  refine hp_callU (va_runI (As := []) (rest := [.ref x]) ⟨hx, hb, hml, hown, hts⟩ (c_X6_init l dC dI dA κ1 s.heap.size hg_0 x kx1 hz1 (fun k => hg_0z (by omega) (by omega)) (hg_0z (by omega) (by omega)) rfl (hg_0z (by omega) (by omega)) (fun a k h1 h2 => hg_0z (by omega) (by omega)) tF) (cwI 0 hts gL_law_X6_init rfl rfl rfl (hts (.initialized RX6) (List.mem_of_getElem? (i := 2) rfl)) (hts (.methodLink RL 9 yX6_init) (List.mem_of_getElem? (i := 7) rfl)) (hts (.instanceMethod yX6_init) (List.mem_of_getElem? (i := 8) rfl)) rfl (by decide +kernel) ⟨Nat.le_of_ble_eq_true rfl, Nat.le_of_ble_eq_true rfl⟩) (law_preB hK hN hAO hZ hZs hT) rfl rfl hl.1 rfl (lv_room (Nat.le_of_ble_eq_true rfl)) dL_law_4 ⟨(by show 0 + 1 + 65 ≤ 600000; omega), (by show 0 + 12 + 7268 ≤ 7302250; omega)⟩) hZ (fun κ2 H locs hD2 hZ => ?_)
  refine W.cs (cells' := 66) (slots' := 7280) (by omega) (by omega) ?_
  obtain ⟨kx2, hal2⟩ := hD2
  refine lv_astore_n (lv' := [(1, .ref x), (0, .ref b)]) hx hb dL_law_7 rfl hl (by decide) rfl (fun ls hl => ?_)
  refine hp_newo (C := RX7) (T := TX7) (N := 24) (ci := 7) (kd := 200) hx hb hts inlX7 tyX7 tyX7_ok hown (hts (.classLink RL 10 RX7) (List.mem_of_getElem? (i := 3) rfl)) (hts (.instantiable RX7 24) (List.mem_of_getElem? (i := 4) rfl)) (hts (.initialized RX7) (List.mem_of_getElem? (i := 5) rfl)) hK hZ rfl rfl (by unfold hk_ok; omega) (fun _ k hk => by match k, hk with | 0, _ => exact trivial | 1, _ => exact ⟨0, rfl, by decide, by decide⟩ | 2, _ => exact trivial | 3, _ => exact trivial | 4, _ => exact ⟨0, rfl, trivial⟩ | 5, _ => exact ⟨0, rfl, trivial⟩ | 6, _ => exact ⟨0, rfl, trivial⟩ | 7, _ => exact trivial | 8, _ => exact trivial | 9, _ => exact trivial | 10, _ => exact trivial | 11, _ => exact trivial | 12, _ => exact trivial | 13, _ => exact ⟨0, rfl, by decide, by decide⟩ | 14, _ => exact trivial | 15, _ => exact trivial | 16, _ => exact trivial | 17, _ => exact trivial | 18, _ => exact trivial | 19, _ => exact ⟨0, rfl, by decide, by decide⟩ | 20, _ => exact ⟨0, rfl, by decide, by decide⟩ | 21, _ => exact trivial | 22, _ => exact ⟨0, rfl, by decide, by decide⟩ | 23, _ => exact ⟨0, rfl, trivial⟩ | n9 + 24, hk => exact absurd hk (by omega)) (fun h => absurd h (by decide)) (by show 66 + 1 ≤ 600000; omega) (by show 7280 + 24 ≤ 7302250; omega) dL_law_8 (fun mo H zm hZ => ?_)
  obtain ⟨κ3, e3⟩ : ∃ z, z = hp_kk κ2 mo 200 := ⟨_, rfl⟩
  rw [← e3] at hZ
  have km3 : κ3 mo = 200 := by rw [e3]; exact hp_kk_s _ _ _
  have hxm : x ≠ mo := ne_k kx2 zm (by decide)
  have kx3 : κ3 x = 1 := by rw [e3, hp_kk_n hxm]; exact kx2
  refine lv_dup hx hb dL_law_11 rfl ?_
  refine hp_callU (va_runI (As := []) (rest := [.ref mo]) ⟨hx, hb, hml, hown, hts⟩ (c_X7_init l dC dI dA κ3 s.heap.size hg_0 mo km3 (fun a ha => by rw [e3, hp_kk_n ha]; have := hal2 a; omega) (fun a k h => hg_0z (by omega) (by omega)) rfl (fun a k h1 h2 => hg_0z (by omega) (by omega))) (cwI 0 hts gL_law_X7_init rfl rfl rfl (hts (.initialized RX7) (List.mem_of_getElem? (i := 5) rfl)) (hts (.methodLink RL 12 yX7_init) (List.mem_of_getElem? (i := 98) rfl)) (hts (.instanceMethod yX7_init) (List.mem_of_getElem? (i := 99) rfl)) rfl (by decide +kernel) ⟨Nat.le_of_ble_eq_true rfl, Nat.le_of_ble_eq_true rfl⟩) (hp_preT [.ref mo] hK hN hAO hZ) rfl rfl hl.1 rfl (lv_room (Nat.le_of_ble_eq_true rfl)) dL_law_12 ⟨(by show 66 + 1 + 15 ≤ 600000; omega), (by show 7280 + 24 + 9149 ≤ 7302250; omega)⟩) hZ (fun κ4 H locs hD4 hZ => ?_)
  obtain ⟨km4, hQ4, hR4⟩ := hD4
  have kx4 : κ4 x = 1 := (hQ4 x (by rw [kx3]; decide) hxm).trans kx3
  refine lv_astore_n (lv' := [(2, .ref mo), (1, .ref x), (0, .ref b)]) hx hb dL_law_15 rfl hl (by decide) rfl (fun ls hl => ?_)
  refine hq_iconst hx hb dL_law_16 (by decide) (by decide) (fun z0 ez0 => ?_)
  refine lv_istore_n (lv' := [(3, .int z0), (2, .ref mo), (1, .ref x), (0, .ref b)]) hx hb dL_law_17 rfl hl (by decide) rfl (fun ls hl => ?_)
  refine W.widen (k := 600000) (n := 7302250) (by omega) (by omega) ?_
  obtain ⟨hWf, hVf, hKf, hBf, ⟨F, hM, hO⟩, hSf⟩ := hZ
  have half : ∀ a : Nat, κ4 a ≤ 30 ∨ κ4 a = 38 ∨ κ4 a = 39 ∨ (300 ≤ κ4 a ∧ κ4 a < 380 ∧ (κ4 a < 312 ∨ 320 ≤ κ4 a)) := by
    intro a
    by_cases ha : a = mo
    · rw [ha, km4]; omega
    · by_cases hz : κ3 a = 0
      · have := hR4 a hz; omega
      · rw [hQ4 a hz ha, e3, hp_kk_n ha]; have := hal2 a; omega
  obtain ⟨g', hO', hg'⟩ := he_start hWf hO half (fun kd k q1 q2 => hg_0z (fun q => by rw [q.1, q.2] at q2; exact absurd q2 (by decide)) (fun q => by rw [q.1, q.2] at q2; exact absurd q2 (by decide)))
  have hEg' := he_hE hO hg' kx4 km4 (fun a k q1 q2 => hg_0z q1 q2)
  exact law_loop hL hx hb hr hml hown hts hX hbl hlocks rfl hK hN hWf kx4 km4 (L + 5) 0 z0 g' _ _ ls (by omega) (by omega) (by omega) hEg' ⟨⟨F, hM, hO'⟩, hSf⟩ (lv_sub hl [3, 2, 1, 0] rfl)
