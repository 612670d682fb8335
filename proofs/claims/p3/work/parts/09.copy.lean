theorem hi_fz {v : Int32} (h : v.toInt = 0 ∨ v.toInt = 1) : fits .boolean (.int v) = true := by
  rcases h with h | h
  · rw [show v = 0 from hi_eq.mpr h]; rfl
  · rw [show v = 1 from hi_eq.mpr h]; rfl
theorem hi_fb {x : Int32} (h1 : -128 ≤ x.toInt) (h2 : x.toInt ≤ 127) : fits .byte (.int x) = true := by
  have h := lg_i2b_small (v := x) h1 (by omega)
  rw [← h]
  exact pk_fb x
theorem hi_nn {x : Int32} (h : 0 ≤ x.toInt) : ¬ x < 0 := fun q => by
  have := hi_lt.mp q
  rw [hi_0] at this
  omega
theorem hi_or9 {x y : Int32} (h1 : 0 ≤ x.toInt) (h2 : x.toInt ≤ 511) (h3 : 0 ≤ y.toInt) (h4 : y.toInt ≤ 511) : 0 ≤ (x ||| y).toInt ∧ (x ||| y).toInt ≤ 511 := by
  obtain ⟨a, ha, rfl⟩ : ∃ a : Nat, a < 512 ∧ x = nI a := ⟨x.toInt.toNat, by omega, hi_eq.mpr (by rw [nI_toInt (by omega)]; omega)⟩
  obtain ⟨b, hb, rfl⟩ : ∃ b : Nat, b < 512 ∧ y = nI b := ⟨y.toInt.toNat, by omega, hi_eq.mpr (by rw [nI_toInt (by omega)]; omega)⟩
  have hlt : a ||| b < 2 ^ 9 := Nat.or_lt_two_pow ha hb
  have h : nI a ||| nI b = nI (a ||| b) := by
    apply Int32.toBitVec_inj.mp
    apply BitVec.eq_of_toNat_eq
    rw [pk_tn (by omega)]
    show ((nI a).toBitVec ||| (nI b).toBitVec).toNat = _
    rw [BitVec.toNat_or, pk_tn (by omega), pk_tn (by omega)]
  rw [h, nI_toInt (by omega)]
  omega
theorem hi_shl8 {x y : Int32} (hy : y.toInt = 8) (hx : 0 ≤ x.toInt ∧ x.toInt ≤ 1) : 0 ≤ (x <<< (y &&& 31)).toInt ∧ (x <<< (y &&& 31)).toInt ≤ 256 := by
  rw [show y = 8 from hi_eq.mpr hy]
  rcases (show x.toInt = 0 ∨ x.toInt = 1 by omega) with h | h
  · rw [show x = 0 from hi_eq.mpr h]; decide
  · rw [show x = 1 from hi_eq.mpr h]; decide
section HPC
variable {p : Program} {l : Launch} {e : Env} {R : Room} {s : State} {m : MethodId} {args : Array Value} {below : List Frame} {meth : Method} {c : Code} {H : Heap} {locs : List Loc} {cells slots : Nat} {Q : State → Prop}
variable {cc : ByteArray} {pc : Nat} {ls : Array Slot} {rest : List Value}
variable {dC : Nat → ClassId} {dI : Nat → Nat → Nat} {dA : Nat → ClassId} {κ : Nat → Nat} {B : Nat} {g : Nat → Nat → Int} {H0 : Heap} {a a0 : Nat}
theorem hq_ior9 (hx : p.tables.exec = Jvm.exec) (hb : c.code = cc) {x y : Int32} (hdg : decode cc pc = .ok (.ior, 1)) (h1 : 0 ≤ x.toInt) (h2 : x.toInt ≤ 511) (h3 : 0 ≤ y.toInt) (h4 : y.toInt ≤ 511)
    (kk : ∀ z : Int32, 0 ≤ z.toInt ∧ z.toInt ≤ 511 → W p l e R s m args below meth c H locs cells slots Q (F0 m (pc + 1) ls (.int z :: rest))) : W p l e R s m args below meth c H locs cells slots Q (F0 m pc ls (.int y :: .int x :: rest)) := lv_ior hx hb hdg (kk _ (hi_or9 h1 h2 h3 h4))
theorem hq_ishl8 (hx : p.tables.exec = Jvm.exec) (hb : c.code = cc) {x y : Int32} (hdg : decode cc pc = .ok (.ishl, 1)) (hy : y.toInt = 8) (h1 : 0 ≤ x.toInt ∧ x.toInt ≤ 1)
    (kk : ∀ z : Int32, 0 ≤ z.toInt ∧ z.toInt ≤ 256 → W p l e R s m args below meth c H locs cells slots Q (F0 m (pc + 1) ls (.int z :: rest))) : W p l e R s m args below meth c H locs cells slots Q (F0 m pc ls (.int y :: .int x :: rest)) := lv_ishl hx hb hdg (kk _ (hi_shl8 hy h1))
set_option maxHeartbeats 1000000 in
/-- bytes of any byte array, laid into a Contents' bytes -/
theorem hp_copyb (hx : p.tables.exec = Jvm.exec) (hb : c.code = cc) (hml : c.maxLocals = ls.size) {own : String} {index : Nat} (hown : s.vm.findClass own = some m.cls) (hlink : (Cond.methodLink own index arraycopyName).before args s = true) (hnat : (Cond.native arraycopyName).before args s = true) (hstat : (Cond.static arraycopyName).before args s = true) (hini : (Cond.initialized "java/lang/System").before args s = true)
    (hK : va_K (dC, dI) vwCl (hp_ty dA) s) (hW : hp_W κ B) (hJ : hp_J dC dI dA κ B g H0 H locs) {cs : Cell} (hcs : H[a0]? = some cs) (harr : s.isArrayOf cs .byte) (hkn : cs.vm ≠ .unknown) (hκ : κ a = 14)
    {sp dp n : Int32} (h1 : 0 ≤ sp.toInt) (h2 : 0 ≤ dp.toInt) (h3 : 0 ≤ n.toInt) (h4 : sp.toInt + n.toInt ≤ (cs.slots.size : Int)) (h5 : dp.toInt + n.toInt ≤ 420) (hel : ∀ i : Nat, i < cs.slots.size → ∃ x : Int32, cs.slots[i]? = some (.int x) ∧ -128 ≤ x.toInt ∧ x.toInt ≤ 127)
    (hframes : 1 ≤ R.frames) (hlocals : (rest.map fun v => v.category).sum + (nativeFrameWords "java/lang/System" "arraycopy" 5 + 11) ≤ R.locals) (hdg : decode cc pc = .ok (.invokestatic index, 3))
    (kk : ∀ (H1 : Heap) (locs1 : List Loc), hp_J dC dI dA κ B g H0 H1 locs1 → W p l e R s m args below meth c H1 locs1 cells slots Q (F0 m (pc + 3) ls rest)) : W p l e R s m args below meth c H locs cells slots Q (F0 m pc ls (.int n :: .int dp :: .ref a :: .int sp :: .ref a0 :: rest)) := by
  intro T hT X
  obtain ⟨⟨F, hM, hO⟩, hS⟩ := hJ
  have hd0 := hM a
  rw [hκ] at hd0
  have hd : H[a]? = some (arrV (dA 1) 420 (F a)) := hd0
  obtain ⟨ho0, k0, hk0, cm0, hkk0⟩ := harr
  obtain ⟨ho1, k1, hk1, cm1, hkk1⟩ := (hK.2 1 _ rfl).1 420 (F a)
  have c1 := hi_cl h1
  have c2 := hi_cl h2
  have c3 := hi_cl h3
  have hget : ∀ i : Nat, i < n.toNatClampNeg → ∃ x : Int32, cs.slots.getD (sp.toNatClampNeg + i) .null = .int x ∧ -128 ≤ x.toInt ∧ x.toInt ≤ 127 := by
    intro i hi
    obtain ⟨x, hx1, hx2⟩ := hel (sp.toNatClampNeg + i) (by omega)
    exact ⟨x, by rw [Array.getD_eq_getD_getElem?, hx1]; rfl, hx2⟩
  obtain ⟨vm', X', step⟩ := X.arraycopy hx hown hlink hnat hstat hini (src := a0) (dst := a) (cs := cs) (cd := arrV (dA 1) 420 (F a)) (srcPos := sp) (destPos := dp) (n := n) (by rw [hT]; exact hcs) (by rw [hT]; exact hd)
    ho0 ho1 hkn (fun h => by cases h) hk0 hk1 hkk0 hkk1 rfl (hi_nn h1) (hi_nn h2) (hi_nn h3) (by omega) (by rw [arrV_size]; omega)
    (fun vm₁ _ i hi => by
      obtain ⟨x, hx1, hx2, hx3⟩ := hget i hi
      rw [hx1]
      exact ⟨hi_fb hx2 hx3, trivial⟩)
    (g := F0 m pc ls (.int n :: .int dp :: .ref a :: .int sp :: .ref a0 :: rest)) rfl (by rw [hml]) (rest := rest) rfl (by rw [hb]; exact hdg) hframes (by show 2 * 0 + _ + _ ≤ _; omega)
  obtain ⟨V, hV, hVb⟩ : ∃ V : Nat → Value, copied cs (arrV (dA 1) 420 (F a)) sp dp n = arrV (dA 1) 420 V ∧ ∀ k, k < 420 → hs_ok κ (g 14 k) (5, 0) (V k) := by
    refine ⟨_, ((show copied cs (arrV (dA 1) 420 (F a)) sp dp n = (arrV (dA 1) 420 (F a)).storePairs dp.toNatClampNeg ((cs.stretch sp.toNatClampNeg n.toNatClampNeg).zipIdx 0) from rfl).trans (va_pairs _ _ _ _ _ _)), fun k hk => ?_⟩
    have hlen : (cs.stretch sp.toNatClampNeg n.toNatClampNeg).length = n.toNatClampNeg := by
      unfold Cell.stretch
      simp
    split
    · next hc =>
      rw [hlen] at hc
      obtain ⟨x, hx1, hx2, hx3⟩ := hget (k - (dp.toNatClampNeg + 0)) (by omega)
      refine ⟨x, ?_, hx2, hx3⟩
      rw [← hx1]
      unfold Cell.stretch
      rw [List.getD_eq_getElem?_getD, List.getElem?_map, List.getElem?_range (by omega)]
      rfl
    · have h9 := hO a k
      rw [hκ] at h9
      exact h9 hk
  rw [hV] at X' step
  have hl : a < H.size := (Array.getElem?_eq_some_iff.mp hd).1
  have hheap : ((T.setVm vm').setCell a (arrV (dA 1) 420 V)).heap = H.setIfInBounds a (arrV (dA 1) 420 V) := by rw [← hT]; rfl
  have oq : ∀ q : Nat, q ≠ a → (H.setIfInBounds a (arrV (dA 1) 420 V))[q]? = H[q]? := fun q hq => by simp [Array.getElem?_setIfInBounds, Ne.symm hq]
  have hBa : B ≤ a := hW.1 a (by rw [hκ]; decide)
  have hM' : hp_M dC dI dA κ (fun b => if b = a then V else F b) (H.setIfInBounds a (arrV (dA 1) 420 V)) := by
    intro b
    by_cases hq : b = a
    · subst hq
      dsimp only
      rw [if_pos rfl, hκ]
      show (H.setIfInBounds b (arrV (dA 1) 420 V))[b]? = some (arrV (dA 1) 420 V)
      simp [Array.getElem?_setIfInBounds, hl]
    · dsimp only
      rw [if_neg hq]
      exact (hM b).kept (oq b hq)
  have hO' : hp_O κ g (fun b => if b = a then V else F b) := by
    intro b k hk
    by_cases hq : b = a
    · subst hq
      dsimp only
      rw [if_pos rfl, hκ]
      rw [hκ] at hk
      exact hVb k hk
    · dsimp only
      rw [if_neg hq]
      exact hO b k hk
  obtain ⟨t, a1, b1⟩ := kk _ _ ⟨⟨_, hM', hO'⟩, by simpa using hS.1, fun q g1 g2 => by
      rw [oq q (fun e => g2 (by rw [e]; exact hBa))]
      exact hS.2.1 q g1 g2, fun q hq => by
      rcases List.mem_append.mp hq with h | h
      · exact hS.2.2 q h
      · obtain ⟨z, -, hz⟩ := List.mem_map.mp h
        rw [← hz]
        exact hBa⟩ _ hheap X'
  exact ⟨t, step t a1, b1⟩
/-- the cell of a byte array of ours, as arraycopy wants it -/
theorem hp_bcell (hK : va_K (dC, dI) vwCl (hp_ty dA) s) (hJ : hp_J dC dI dA κ B g H0 H locs) {kd n : Nat} (hκ : κ a = kd) (ht : hk_t kd = (2, 1, n)) (hs : ∀ j, hk_s kd j = (5, 0)) : ∃ cs : Cell, H[a]? = some cs ∧ s.isArrayOf cs .byte ∧ cs.vm ≠ .unknown ∧ cs.slots.size = n ∧ ∀ i : Nat, i < cs.slots.size → ∃ x : Int32, cs.slots[i]? = some (.int x) ∧ -128 ≤ x.toInt ∧ x.toInt ≤ 127 := by
  obtain ⟨⟨F, hM, hO⟩, -⟩ := hJ
  have h := hM a
  rw [hκ, ht] at h
  refine ⟨_, h, (hK.2 1 _ rfl).1 n (F a), (fun q => by cases q), arrV_size _ _ _, fun i hi => ?_⟩
  rw [arrV_size] at hi
  have ho := hO a i
  rw [hκ, ht, hs] at ho
  obtain ⟨x, hx1, hx2, hx3⟩ := (show ∃ x : Int32, F a i = .int x ∧ -128 ≤ x.toInt ∧ x.toInt ≤ 127 from ho hi)
  exact ⟨x, by rw [arrV_read _ _ hi, hx1], hx2, hx3⟩
end HPC
