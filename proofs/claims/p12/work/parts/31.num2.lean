theorem hi_tn (x : Int32) : x.toInt = if x.toBitVec.toNat < 2147483648 then (x.toBitVec.toNat : Int) else (x.toBitVec.toNat : Int) - 4294967296 := by
  show x.toBitVec.toInt = _
  rw [BitVec.toInt_eq_toNat_cond]
  split <;> split <;> omega
theorem hi_andE (k : Nat) {x y : Int32} {n : Int} (hy : y.toInt = n) (hn : n = 2 ^ k - 1) (hk : k ≤ 30) : (x &&& y).toInt = ((x.toBitVec.toNat % 2 ^ k : Nat) : Int) := by
  have h30 : (2 : Int) ^ k ≤ 2 ^ 30 := by exact_mod_cast Nat.pow_le_pow_right (by decide : 0 < 2) hk
  have h1 : (1 : Int) ≤ 2 ^ k := by exact_mod_cast Nat.one_le_two_pow
  have h6 : (2 : Nat) ^ k ≤ 2 ^ 30 := Nat.pow_le_pow_right (by decide) hk
  have h4 : ((2 ^ k - 1 : Nat) : Int) = 2 ^ k - 1 := by
    rw [Int.natCast_sub Nat.one_le_two_pow]; simp
  have hb : y.toBitVec.toNat = 2 ^ k - 1 := by
    have hy2 : y = nI (2 ^ k - 1) := hi_eq.mpr (by rw [hy, hn, nI_toInt (by omega), h4])
    rw [hy2, pk_tn (by omega)]
  have h := pk_and x k hb
  have hlt : x.toBitVec.toNat % 2 ^ k < 2 ^ k := Nat.mod_lt _ (Nat.two_pow_pos k)
  rw [h, nI_toInt (by omega)]
theorem hi_and1 {x y : Int32} (hy : y.toInt = 1) : (x &&& y).toInt = x.toInt % 2 := by
  rw [hi_andE 1 hy (by decide) (by decide)]
  have h := hi_tn x
  split at h <;> omega
theorem hi_and127 {x y : Int32} (hy : y.toInt = 127) : (x &&& y).toInt = x.toInt % 128 := by
  rw [hi_andE 7 hy (by decide) (by decide)]
  have h := hi_tn x
  split at h <;> omega
theorem hi_and255 {x y : Int32} (hy : y.toInt = 255) : (x &&& y).toInt = x.toInt % 256 := by
  rw [hi_andE 8 hy (by decide) (by decide)]
  have h := hi_tn x
  split at h <;> omega
theorem hi_and511 {x y : Int32} (hy : y.toInt = 511) : (x &&& y).toInt = x.toInt % 512 := by
  rw [hi_andE 9 hy (by decide) (by decide)]
  have h := hi_tn x
  split at h <;> omega
theorem hi_shl8t : ∀ a : Nat, a < 256 → ((Int32.ofNat a) <<< ((8 : Int32) &&& 31)).toInt = (a : Int) * 256 := by decide +kernel
theorem hi_shl8e {x y : Int32} (hy : y.toInt = 8) (h1 : 0 ≤ x.toInt) (h2 : x.toInt ≤ 255) : (x <<< (y &&& 31)).toInt = x.toInt * 256 := by
  rw [show y = 8 from hi_eq.mpr hy]
  obtain ⟨a, ha, rfl⟩ : ∃ a : Nat, a < 256 ∧ x = nI a := ⟨x.toInt.toNat, by omega, hi_eq.mpr (by rw [nI_toInt (by omega)]; omega)⟩
  rw [nI_toInt (by omega)]
  exact hi_shl8t a ha
theorem hi_or16 {x y : Int32} {m9 : Int} (hm : x.toInt = m9 * 256) (h1 : 0 ≤ m9) (h2 : m9 ≤ 255) (h3 : 0 ≤ y.toInt) (h4 : y.toInt ≤ 255) : (x ||| y).toInt = x.toInt + y.toInt := by
  obtain ⟨a, ha, rfl⟩ : ∃ a : Nat, a < 256 ∧ m9 = (a : Int) := ⟨m9.toNat, by omega, by omega⟩
  have hx : x = nI (a * 256) := hi_eq.mpr (by rw [nI_toInt (by omega)]; omega)
  obtain ⟨b, hb, rfl⟩ : ∃ b : Nat, b < 256 ∧ y = nI b := ⟨y.toInt.toNat, by omega, hi_eq.mpr (by rw [nI_toInt (by omega)]; omega)⟩
  subst hx
  have ho : a * 256 ||| b = a * 256 + b := by
    have h := Nat.shiftLeft_add_eq_or_of_lt (b := b) (i := 8) (by omega) a
    rw [Nat.shiftLeft_eq] at h
    exact h.symm
  have h : nI (a * 256) ||| nI b = nI (a * 256 ||| b) := by
    apply Int32.toBitVec_inj.mp
    apply BitVec.eq_of_toNat_eq
    rw [pk_tn (by omega)]
    show ((nI (a * 256)).toBitVec ||| (nI b).toBitVec).toNat = _
    rw [BitVec.toNat_or, pk_tn (by omega), pk_tn (by omega)]
  rw [h, ho, nI_toInt (by omega), nI_toInt (by omega), nI_toInt (by omega)]
  omega
section HNW
variable {p : Program} {l : Launch} {e : Env} {R : Room} {s : State} {m : MethodId} {args : Array Value} {below : List Frame} {meth : Method} {c : Code} {H : Heap} {locs : List Loc} {cells slots : Nat} {Q : State → Prop}
variable {cc : ByteArray} {pc : Nat} {ls : Array Slot} {rest : List Value}
theorem hq_iand1 (hx : p.tables.exec = Jvm.exec) (hb : c.code = cc) {x y : Int32} (hdg : decode cc pc = .ok (.iand, 1)) (hy : y.toInt = 1)
    (kk : ∀ z : Int32, z.toInt = x.toInt % 2 → W p l e R s m args below meth c H locs cells slots Q (F0 m (pc + 1) ls (.int z :: rest))) : W p l e R s m args below meth c H locs cells slots Q (F0 m (pc) ls (.int y :: .int x :: rest)) := lv_iand hx hb hdg (kk _ (hi_and1 hy))
theorem hq_iand127 (hx : p.tables.exec = Jvm.exec) (hb : c.code = cc) {x y : Int32} (hdg : decode cc pc = .ok (.iand, 1)) (hy : y.toInt = 127)
    (kk : ∀ z : Int32, z.toInt = x.toInt % 128 → W p l e R s m args below meth c H locs cells slots Q (F0 m (pc + 1) ls (.int z :: rest))) : W p l e R s m args below meth c H locs cells slots Q (F0 m (pc) ls (.int y :: .int x :: rest)) := lv_iand hx hb hdg (kk _ (hi_and127 hy))
theorem hq_iand255 (hx : p.tables.exec = Jvm.exec) (hb : c.code = cc) {x y : Int32} (hdg : decode cc pc = .ok (.iand, 1)) (hy : y.toInt = 255)
    (kk : ∀ z : Int32, z.toInt = x.toInt % 256 → W p l e R s m args below meth c H locs cells slots Q (F0 m (pc + 1) ls (.int z :: rest))) : W p l e R s m args below meth c H locs cells slots Q (F0 m (pc) ls (.int y :: .int x :: rest)) := lv_iand hx hb hdg (kk _ (hi_and255 hy))
theorem hq_iand511 (hx : p.tables.exec = Jvm.exec) (hb : c.code = cc) {x y : Int32} (hdg : decode cc pc = .ok (.iand, 1)) (hy : y.toInt = 511)
    (kk : ∀ z : Int32, z.toInt = x.toInt % 512 → W p l e R s m args below meth c H locs cells slots Q (F0 m (pc + 1) ls (.int z :: rest))) : W p l e R s m args below meth c H locs cells slots Q (F0 m (pc) ls (.int y :: .int x :: rest)) := lv_iand hx hb hdg (kk _ (hi_and511 hy))
theorem hq_ishl8e (hx : p.tables.exec = Jvm.exec) (hb : c.code = cc) {x y : Int32} (hdg : decode cc pc = .ok (.ishl, 1)) (hy : y.toInt = 8) (h1 : 0 ≤ x.toInt) (h2 : x.toInt ≤ 255)
    (kk : ∀ z : Int32, z.toInt = x.toInt * 256 → W p l e R s m args below meth c H locs cells slots Q (F0 m (pc + 1) ls (.int z :: rest))) : W p l e R s m args below meth c H locs cells slots Q (F0 m (pc) ls (.int y :: .int x :: rest)) := lv_ishl hx hb hdg (kk _ (hi_shl8e hy h1 h2))
theorem hq_ior16 (hx : p.tables.exec = Jvm.exec) (hb : c.code = cc) {x y : Int32} {m9 : Int} (hdg : decode cc pc = .ok (.ior, 1)) (hm : x.toInt = m9 * 256) (h1 : 0 ≤ m9) (h2 : m9 ≤ 255) (h3 : 0 ≤ y.toInt) (h4 : y.toInt ≤ 255)
    (kk : ∀ z : Int32, z.toInt = x.toInt + y.toInt → W p l e R s m args below meth c H locs cells slots Q (F0 m (pc + 1) ls (.int z :: rest))) : W p l e R s m args below meth c H locs cells slots Q (F0 m (pc) ls (.int y :: .int x :: rest)) := lv_ior hx hb hdg (kk _ (hi_or16 hm h1 h2 h3 h4))
theorem hq_iaddW (hx : p.tables.exec = Jvm.exec) (hb : c.code = cc) {x y : Int32} (hdg : decode cc pc = .ok (.iadd, 1))
    (kk : ∀ z : Int32, z.toInt = (x.toInt + y.toInt).bmod (2 ^ 32) → W p l e R s m args below meth c H locs cells slots Q (F0 m (pc + 1) ls (.int z :: rest))) : W p l e R s m args below meth c H locs cells slots Q (F0 m (pc) ls (.int y :: .int x :: rest)) := lv_iadd hx hb hdg (kk _ (Int32.toInt_add _ _))
theorem hq_isubW (hx : p.tables.exec = Jvm.exec) (hb : c.code = cc) {x y : Int32} (hdg : decode cc pc = .ok (.isub, 1))
    (kk : ∀ z : Int32, z.toInt = (x.toInt - y.toInt).bmod (2 ^ 32) → W p l e R s m args below meth c H locs cells slots Q (F0 m (pc + 1) ls (.int z :: rest))) : W p l e R s m args below meth c H locs cells slots Q (F0 m (pc) ls (.int y :: .int x :: rest)) := lv_isub hx hb hdg (kk _ (Int32.toInt_sub _ _))
theorem hq_i2bb (hx : p.tables.exec = Jvm.exec) (hb : c.code = cc) {x : Int32} (hdg : decode cc pc = .ok (.i2b, 1))
    (kk : ∀ z : Int32, -128 ≤ z.toInt ∧ z.toInt ≤ 127 → W p l e R s m args below meth c H locs cells slots Q (F0 m (pc + 1) ls (.int z :: rest))) : W p l e R s m args below meth c H locs cells slots Q (F0 m (pc) ls (.int x :: rest)) := lv_i2b hx hb hdg rfl (kk _ ⟨(lg_i2b_range x).1, Int.le_of_lt_add_one (lg_i2b_range x).2⟩)
end HNW
