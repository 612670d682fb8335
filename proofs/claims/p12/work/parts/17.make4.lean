theorem hk_t80 {i : Nat} (h : i ≤ 4) : hk_t (80 + i) = (2, 3, 4) := by
  unfold hk_t
  rw [if_neg (by omega), if_neg (by omega), if_neg (by omega), if_pos (by omega)]
theorem hk_t110 {i : Nat} (h : i ≤ 4) : hk_t (110 + i) = (1, 6, 12) := by
  unfold hk_t
  rw [if_neg (by omega), if_neg (by omega), if_neg (by omega), if_neg (by omega), if_pos (by omega)]
theorem hk_s110 : ∀ i, i < 5 → hk_s (110 + i) 3 = (4, 80 + i) := by decide +kernel
theorem hk_row80 : ∀ i, i < 4 → ∀ j, j < 4 → j ≠ i → hk_s (81 + i) j = hk_s (80 + i) j ∧ (hk_s (80 + i) j).1 ≠ 0 := by decide +kernel
theorem hk_rowi80 : ∀ i, i < 4 → hk_s (81 + i) i = (4, 5 + i) := by decide +kernel
theorem hk_row110 : ∀ i, i < 4 → ∀ j, j < 12 → j ≠ 3 → hk_s (111 + i) j = hk_s (110 + i) j ∧ (hk_s (110 + i) j).1 ≠ 0 ∧ hk_s (110 + i) j ≠ (4, 80 + i) := by decide +kernel
section HPU
variable {p : Program} {l : Launch} {e : Env} {R : Room} {s : State} {m : MethodId} {args : Array Value} {below : List Frame} {meth : Method} {c : Code} {H : Heap} {locs : List Loc} {cells slots : Nat} {Q : State → Prop}
variable {cc : ByteArray} {pc : Nat} {ls : Array Slot} {rest st0 : List Value}
variable {dC : Nat → ClassId} {dI : Nat → Nat → Nat} {dA : Nat → ClassId} {κ : Nat → Nat} {B : Nat} {g : Nat → Nat → Int} {H0 : Heap} {a a0 : Nat}
abbrev hp_QU (dC : Nat → ClassId) (dI : Nat → Nat → Nat) (dA : Nat → ClassId) (B : Nat) (g : Nat → Nat → Int) (D : (Nat → Nat) → Prop) : Array Value → State → Outcome → State → Prop := va_Qv D (fun κ' t => hp_T dC dI dA κ' B g t) (hp_A B)
theorem hp_callU {mc ms : Nat} {D : (Nat → Nat) → Prop} {av : Array Value} (hr : va_Run p l e R s m args below meth c H locs cells slots mc ms (F0 m pc ls st0) rest (hp_QU dC dI dA B g D av) (hp_A B)) (hZ : hp_Z dC dI dA κ B g H0 H locs)
    (kk : ∀ (κ' : Nat → Nat) (H1 : Heap) (locs1 : List Loc), D κ' → hp_Z dC dI dA κ' B g H0 H1 locs1 → W p l e R s m args below meth c H1 locs1 (cells + mc) (slots + ms) Q (F0 m (pc + 3) ls (rest))) : W p l e R s m args below meth c H locs cells slots Q (F0 m pc ls (st0)) :=
  va_callv hr hZ.2.2.2.2.2 (fun _ _ h => h) (fun _ h => h) (fun u t H1 locs1 ht hvm hp hb' _ _ hS => kk u H1 locs1 hp ⟨hb'.1.2.2.1, hb'.2.1, hb'.2.2.1, by rw [← ht]; exact hb'.2.2.2.1, by obtain ⟨⟨-, -, -, h⟩, -⟩ := hb'; rw [ht] at h; exact h, hS⟩)
theorem hp_Uret (hx : p.tables.exec = Jvm.exec) (hb : c.code = cc) {κ' : Nat → Nat} {D : (Nat → Nat) → Prop} (hK : va_K (dC, dI) vwCl (hp_ty dA) s) (hN : hp_N s) (hAO : va_AO RX4 s ∧ va_AO RX2 s) (hlocks : meth.locks = false) (hZ : hp_Z dC dI dA κ' B g s.heap H locs) (hr : meth.sig.returnType = none) (hD : D κ') (hdg : decode cc pc = .ok (.return_, 1)) : W p l e R s m args below meth c H locs cells slots (MQ below (hp_QU dC dI dA B g D) args s cells slots (hp_A B)) (F0 m pc ls []) :=
  W.vret hx hb hr (fun t ht hw => ⟨⟨κ', rfl, hD, hp_T.of hK hN hAO hZ ht hw⟩, hZ.2.2.2.2.2.F ht⟩) hZ.2.2.2.2.2.2.2 hdg hlocks
set_option maxHeartbeats 1000000 in
/-- bytes of any byte array, laid into a Contents' bytes -/
theorem hp_copyg (hx : p.tables.exec = Jvm.exec) (hb : c.code = cc) (hml : c.maxLocals = ls.size) {own : String} {index : Nat} (hown : s.vm.findClass own = some m.cls) (hlink : (Cond.methodLink own index arraycopyName).before args s = true) (hnat : (Cond.native arraycopyName).before args s = true) (hstat : (Cond.static arraycopyName).before args s = true) (hini : (Cond.initialized "java/lang/System").before args s = true)
    (hK : va_K (dC, dI) vwCl (hp_ty dA) s) (hW : hp_W κ B) (hJ : hp_J dC dI dA κ B g H0 H locs) {cs : Cell} (hcs : H[a0]? = some cs) (harr : s.isArrayOf cs .byte) (hkn : cs.vm ≠ .unknown) (hκ : κ a = 373)
    {sp dp n : Int32} (h1 : 0 ≤ sp.toInt) (h2 : 0 ≤ dp.toInt) (h3 : 0 ≤ n.toInt) (h4 : sp.toInt + n.toInt ≤ (cs.slots.size : Int)) (h5 : dp.toInt + n.toInt ≤ 420) (hel : ∀ i : Nat, (i : Int) < sp.toInt + n.toInt → ∃ x : Int32, cs.slots[i]? = some (.int x) ∧ -128 ≤ x.toInt ∧ x.toInt ≤ 127)
    (hframes : 1 ≤ R.frames) (hlocals : (rest.map fun v => v.category).sum + (nativeFrameWords "java/lang/System" "arraycopy" 5 + 11) ≤ R.locals) (hdg : decode cc pc = .ok (.invokestatic index, 3))
    (kk : ∀ (H1 : Heap) (locs1 : List Loc), hp_J dC dI dA κ B g H0 H1 locs1 → W p l e R s m args below meth c H1 locs1 cells slots Q (F0 m (pc + 3) ls rest)) : W p l e R s m args below meth c H locs cells slots Q (F0 m pc ls (.int n :: .int dp :: .ref a :: .int sp :: .ref a0 :: rest)) := by
  intro T hT X
  obtain ⟨⟨F, hM, hO⟩, hS⟩ := hJ
  have hd0 := hM a
  rw [hκ] at hd0
  have hd : H[a]? = some (arrV (dA 1) 420 (F a)) := hd0
  obtain ⟨ho0, k0, hk0, cm0, hkk0⟩ := harr
  obtain ⟨ho1, k1, hk1, cm1, hkk1⟩ := (hK.2 1 _ rfl).1 420 (F a)
  have c1 := hi_cl h1
  have c2 := hi_cl h2
  have c3 := hi_cl h3
  have hget : ∀ i : Nat, i < n.toNatClampNeg → ∃ x : Int32, cs.slots.getD (sp.toNatClampNeg + i) .null = .int x ∧ -128 ≤ x.toInt ∧ x.toInt ≤ 127 := by
    intro i hi
    obtain ⟨x, hx1, hx2⟩ := hel (sp.toNatClampNeg + i) (by omega)
    exact ⟨x, by rw [Array.getD_eq_getD_getElem?, hx1]; rfl, hx2⟩
  obtain ⟨vm', X', step⟩ := X.arraycopy hx hown hlink hnat hstat hini (src := a0) (dst := a) (cs := cs) (cd := arrV (dA 1) 420 (F a)) (srcPos := sp) (destPos := dp) (n := n) (by rw [hT]; exact hcs) (by rw [hT]; exact hd)
    ho0 ho1 hkn (fun h => by cases h) hk0 hk1 hkk0 hkk1 rfl (hi_nn h1) (hi_nn h2) (hi_nn h3) (by omega) (by rw [arrV_size]; omega)
    (fun vm₁ _ i hi => by
      obtain ⟨x, hx1, hx2, hx3⟩ := hget i hi
      rw [hx1]
      exact ⟨hi_fb hx2 hx3, trivial⟩)
    (g := F0 m pc ls (.int n :: .int dp :: .ref a :: .int sp :: .ref a0 :: rest)) rfl (by rw [hml]) (rest := rest) rfl (by rw [hb]; exact hdg) hframes (by show 2 * 0 + _ + _ ≤ _; omega)
  obtain ⟨V, hV, hVb⟩ : ∃ V : Nat → Value, copied cs (arrV (dA 1) 420 (F a)) sp dp n = arrV (dA 1) 420 V ∧ ∀ k, k < 420 → hs_ok κ (g 373 k) (5, 0) (V k) := by
    refine ⟨_, ((show copied cs (arrV (dA 1) 420 (F a)) sp dp n = (arrV (dA 1) 420 (F a)).storePairs dp.toNatClampNeg ((cs.stretch sp.toNatClampNeg n.toNatClampNeg).zipIdx 0) from rfl).trans (va_pairs _ _ _ _ _ _)), fun k hk => ?_⟩
    have hlen : (cs.stretch sp.toNatClampNeg n.toNatClampNeg).length = n.toNatClampNeg := by
      unfold Cell.stretch
      simp
    split
    · next hc =>
      rw [hlen] at hc
      obtain ⟨x, hx1, hx2, hx3⟩ := hget (k - (dp.toNatClampNeg + 0)) (by omega)
      refine ⟨x, ?_, hx2, hx3⟩
      rw [← hx1]
      unfold Cell.stretch
      rw [List.getD_eq_getElem?_getD, List.getElem?_map, List.getElem?_range (by omega)]
      rfl
    · have h9 := hO a k
      rw [hκ] at h9
      exact h9 hk
  rw [hV] at X' step
  have hl : a < H.size := (Array.getElem?_eq_some_iff.mp hd).1
  have hheap : ((T.setVm vm').setCell a (arrV (dA 1) 420 V)).heap = H.setIfInBounds a (arrV (dA 1) 420 V) := by rw [← hT]; rfl
  have oq : ∀ q : Nat, q ≠ a → (H.setIfInBounds a (arrV (dA 1) 420 V))[q]? = H[q]? := fun q hq => by simp [Array.getElem?_setIfInBounds, Ne.symm hq]
  have hBa : B ≤ a := hW.1 a (by rw [hκ]; decide)
  have hM' : hp_M dC dI dA κ (fun b => if b = a then V else F b) (H.setIfInBounds a (arrV (dA 1) 420 V)) := by
    intro b
    by_cases hq : b = a
    · subst hq
      dsimp only
      rw [if_pos rfl, hκ]
      show (H.setIfInBounds b (arrV (dA 1) 420 V))[b]? = some (arrV (dA 1) 420 V)
      simp [Array.getElem?_setIfInBounds, hl]
    · dsimp only
      rw [if_neg hq]
      exact (hM b).kept (oq b hq)
  have hO' : hp_O κ g (fun b => if b = a then V else F b) := by
    intro b k hk
    by_cases hq : b = a
    · subst hq
      dsimp only
      rw [if_pos rfl, hκ]
      rw [hκ] at hk
      exact hVb k hk
    · dsimp only
      rw [if_neg hq]
      exact hO b k hk
  obtain ⟨t, a1, b1⟩ := kk _ _ ⟨⟨_, hM', hO'⟩, by simpa using hS.1, fun q g1 g2 => by
      rw [oq q (fun e => g2 (by rw [e]; exact hBa))]
      exact hS.2.1 q g1 g2, fun q hq => by
      rcases List.mem_append.mp hq with h | h
      · exact hS.2.2 q h
      · obtain ⟨z, -, hz⟩ := List.mem_map.mp h
        rw [← hz]
        exact hBa⟩ _ hheap X'
  exact ⟨t, step t a1, b1⟩

end HPU
section HPF4
variable {dC : Nat → ClassId} {dI : Nat → Nat → Nat} {dA : Nat → ClassId} {κ : Nat → Nat} {B : Nat} {g : Nat → Nat → Int} {H0 H : Heap} {locs : List Loc}
theorem hp_fin4 {b h0 : Nat} (hZ : hp_Z dC dI dA κ B g H0 H locs) (kb : κ b = 80 + 4) (kh : κ h0 = 110 + 4) (hub : ∀ a, κ a = 80 + 4 → a = b) (hu : ∀ a, κ a ≠ 1) (hg : ∀ k : Nat, g 1 k = 0) (hal : ∀ a, a ≠ h0 → κ a < 40 ∨ (κ a = 84 ∧ a = b) ∨ 300 ≤ κ a) : hp_Z dC dI dA (hp_kk (hp_kk κ b 15) h0 1) B g H0 H locs := by
  have hbh : b ≠ h0 := fun e => by rw [e, kh] at kb; omega
  obtain ⟨κ', eκ⟩ : ∃ z, z = hp_kk (hp_kk κ b 15) h0 1 := ⟨_, rfl⟩
  rw [← eκ]
  have c1 : κ' h0 = 1 := by rw [eκ]; exact hp_kk_s _ _ _
  have c2 : κ' b = 15 := by rw [eκ, hp_kk_n hbh]; exact hp_kk_s _ _ _
  have c3 : ∀ a, a ≠ h0 → a ≠ b → κ' a = κ a := fun a h1 h2 => by rw [eκ, hp_kk_n h1, hp_kk_n h2]
  have hcase : ∀ (P : Nat → Prop), P h0 → P b → (∀ a, a ≠ h0 → a ≠ b → P a) → ∀ a, P a := by
    intro P p1 p2 p3 a
    by_cases h : a = h0
    · rw [h]; exact p1
    · by_cases h' : a = b
      · rw [h']; exact p2
      · exact p3 a h h'
  have hmono : ∀ {e : Int} {sp : Nat × Nat} {w : Value}, sp ≠ (4, 84) → sp ≠ (4, 114) → hs_ok κ e sp w → hs_ok κ' e sp w := by
    intro e sp w h1 h2 h
    refine h.mono (fun h4 x hx => ?_)
    by_cases hxs : x = h0
    · rw [hxs, kh] at hx
      exact absurd (Prod.ext h4 hx.symm) h2
    · by_cases hxb : x = b
      · rw [hxb, kb] at hx
        exact absurd (Prod.ext h4 hx.symm) h1
      · rw [c3 x hxs hxb]; exact hx
  refine hp_re hZ (hcase _ (by rw [c1, kh]; rfl) (by rw [c2, kb]; rfl) (fun a h h' => by rw [c3 a h h'])) (hcase _ (fun _ => by rw [kh]; omega) (fun _ => by rw [kb]; omega) (fun a h h' => by rw [c3 a h h']; exact id)) (hcase _ (by rw [c1]; exact Or.inr (by decide)) (by rw [c2]; exact Or.inr (by decide)) (fun a h h' => by rw [c3 a h h']; exact hZ.2.1 a)) (hcase _ (by rw [c1]; unfold hk_ok; omega) (by rw [c2]; unfold hk_ok; omega) (fun a h h' => by rw [c3 a h h']; exact hZ.2.2.1 a)) ?_ ?_
  · intro a a' ha hab
    by_cases h : a = h0
    · by_cases g1 : a' = h0
      · rw [h, g1]
      · by_cases g2 : a' = b
        · rw [h, c1, g2, c2] at hab; omega
        · rw [h, c1, c3 a' g1 g2] at hab; exact absurd hab.symm (hu a')
    · by_cases h' : a = b
      · rw [h', c2] at ha; exact absurd ha (by decide)
      · rw [c3 a h h'] at ha hab
        by_cases g1 : a' = h0
        · rw [g1, c1] at hab; exact absurd hab (hu a)
        · by_cases g2 : a' = b
          · rw [g2, c2] at hab; rw [hab] at ha; exact absurd ha (by decide)
          · rw [c3 a' g1 g2] at hab
            exact hZ.1.2 a a' ha hab
  · intro a k v hk h
    by_cases ha : a = h0
    · subst ha
      rw [kh] at hk h
      rw [c1]
      have hk : k < 12 := hk
      have hex : ∀ j : Nat, hs_ok κ (g 114 j) (2, 0) v → hs_ok κ' (g 1 j) (0, 0) v := fun j h => by
        obtain ⟨x, h1, h2, h3⟩ := (show ∃ x : Int32, v = .int x ∧ 0 ≤ x.toInt ∧ x.toInt ≤ ((0 : Nat) : Int) from h)
        exact ⟨x, h1, (show x.toInt = g 1 j by rw [hg]; omega)⟩
      match k, hk, h with
      | 0, _, h => exact hmono (sp := (4, 12)) (by decide) (by decide) h
      | 1, _, h => exact hex 1 h
      | 2, _, h => exact hmono (sp := (4, 333)) (by decide) (by decide) h
      | 3, _, h =>
        obtain ⟨x, h1, h2⟩ := (show ∃ x : Nat, v = .ref x ∧ κ x = 84 from h)
        exact ⟨x, h1, by rw [hub x h2]; exact c2⟩
      | 4, _, h => exact hmono (sp := (4, 10)) (by decide) (by decide) h
      | 5, _, h => exact hmono (sp := (4, 3)) (by decide) (by decide) h
      | 6, _, h => exact hmono (sp := (4, 4)) (by decide) (by decide) h
      | 7, _, h => exact h
      | 8, _, h => exact h
      | 9, _, h => exact h
      | 10, _, h => exact hex 10 h
      | 11, _, h => exact hex 11 h
    · by_cases hab : a = b
      · subst hab
        rw [kb] at hk h
        rw [c2]
        have hk : k < 4 := hk
        match k, hk, h with
        | 0, _, h => exact hmono (sp := (4, 5)) (by decide) (by decide) h
        | 1, _, h => exact hmono (sp := (4, 6)) (by decide) (by decide) h
        | 2, _, h => exact hmono (sp := (4, 7)) (by decide) (by decide) h
        | 3, _, h => exact hmono (sp := (4, 8)) (by decide) (by decide) h
      · rw [c3 a ha hab]
        refine hmono (fun h9 => ?_) (fun h9 => ?_) h
        · have h5 := hk_sr (hZ.2.2.1 a) h9 hk
          have := hal a ha
          omega
        · have h5 := hk_sr (hZ.2.2.1 a) h9 hk
          have := hal a ha
          omega
end HPF4
