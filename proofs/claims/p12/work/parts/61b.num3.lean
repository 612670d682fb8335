theorem hi_shr9t : ∀ a : Nat, a < 256 → ∀ b : Nat, b < 256 → ((Int32.ofNat (256 * a + b)) >>> ((9 : Int32) &&& 31)).toInt = (((256 * a + b : Nat) : Int)) / 512 := by decide +kernel
theorem hi_shr9 {x y : Int32} (hy : y.toInt = 9) (h1 : 0 ≤ x.toInt) (h2 : x.toInt ≤ 65535) : (x >>> (y &&& 31)).toInt = x.toInt / 512 := by
  rw [show y = 9 from hi_eq.mpr hy]
  obtain ⟨a, ha, rfl⟩ : ∃ a : Nat, a < 65536 ∧ x = nI a := ⟨x.toInt.toNat, by omega, hi_eq.mpr (by rw [nI_toInt (by omega)]; omega)⟩
  rw [nI_toInt (by omega)]
  have h9 := hi_shr9t (a / 256) (by omega) (a % 256) (by omega)
  rw [show 256 * (a / 256) + a % 256 = a by omega] at h9
  exact h9
theorem hi_shr1t : ∀ a : Nat, a < 256 → ((Int32.ofInt ((a : Int) - 128)) >>> ((1 : Int32) &&& 31)).toInt = ((a : Int) - 128) / 2 := by decide +kernel
theorem hi_shr1 {x y : Int32} (hy : y.toInt = 1) (h1 : -128 ≤ x.toInt) (h2 : x.toInt ≤ 127) : (x >>> (y &&& 31)).toInt = x.toInt / 2 := by
  rw [show y = 1 from hi_eq.mpr hy]
  have hx : x = Int32.ofInt (((x.toInt + 128).toNat : Int) - 128) := hi_eq.mpr (by rw [hi_ofInt (by omega) (by omega)]; omega)
  have h := hi_shr1t (x.toInt + 128).toNat (by omega)
  rw [← hx] at h
  rw [h]
  omega
section HNX
variable {p : Program} {l : Launch} {e : Env} {R : Room} {s : State} {m : MethodId} {args : Array Value} {below : List Frame} {meth : Method} {c : Code} {H : Heap} {locs : List Loc} {cells slots : Nat} {Q : State → Prop}
variable {cc : ByteArray} {pc : Nat} {ls : Array Slot} {rest : List Value}
variable {dC : Nat → ClassId} {dI : Nat → Nat → Nat} {dA : Nat → ClassId} {κ : Nat → Nat} {B : Nat} {g : Nat → Nat → Int} {H0 : Heap}
theorem hq_ishr9 (hx : p.tables.exec = Jvm.exec) (hb : c.code = cc) {x y : Int32} (hdg : decode cc pc = .ok (.ishr, 1)) (hy : y.toInt = 9) (h1 : 0 ≤ x.toInt) (h2 : x.toInt ≤ 65535)
    (kk : ∀ z : Int32, z.toInt = x.toInt / 512 → W p l e R s m args below meth c H locs cells slots Q (F0 m (pc + 1) ls (.int z :: rest))) : W p l e R s m args below meth c H locs cells slots Q (F0 m (pc) ls (.int y :: .int x :: rest)) := lv_ishr hx hb hdg (kk _ (hi_shr9 hy h1 h2))
theorem hq_ishr1 (hx : p.tables.exec = Jvm.exec) (hb : c.code = cc) {x y : Int32} (hdg : decode cc pc = .ok (.ishr, 1)) (hy : y.toInt = 1) (h1 : -128 ≤ x.toInt) (h2 : x.toInt ≤ 127)
    (kk : ∀ z : Int32, z.toInt = x.toInt / 2 → W p l e R s m args below meth c H locs cells slots Q (F0 m (pc + 1) ls (.int z :: rest))) : W p l e R s m args below meth c H locs cells slots Q (F0 m (pc) ls (.int y :: .int x :: rest)) := lv_ishr hx hb hdg (kk _ (hi_shr1 hy h1 h2))
theorem hq_ishlE (hx : p.tables.exec = Jvm.exec) (hb : c.code = cc) {x y : Int32} (hdg : decode cc pc = .ok (.ishl, 1))
    (kk : ∀ z : Int32, z = x <<< (y &&& 31) → W p l e R s m args below meth c H locs cells slots Q (F0 m (pc + 1) ls (.int z :: rest))) : W p l e R s m args below meth c H locs cells slots Q (F0 m (pc) ls (.int y :: .int x :: rest)) := lv_ishl hx hb hdg (kk _ rfl)
theorem hq_iorE (hx : p.tables.exec = Jvm.exec) (hb : c.code = cc) {x y : Int32} (hdg : decode cc pc = .ok (.ior, 1))
    (kk : ∀ z : Int32, z = x ||| y → W p l e R s m args below meth c H locs cells slots Q (F0 m (pc + 1) ls (.int z :: rest))) : W p l e R s m args below meth c H locs cells slots Q (F0 m (pc) ls (.int y :: .int x :: rest)) := lv_ior hx hb hdg (kk _ rfl)
theorem hq_i2be (hx : p.tables.exec = Jvm.exec) (hb : c.code = cc) {x : Int32} (hdg : decode cc pc = .ok (.i2b, 1))
    (kk : ∀ z : Int32, z = x.toInt8.toInt32 → -128 ≤ z.toInt ∧ z.toInt ≤ 127 → W p l e R s m args below meth c H locs cells slots Q (F0 m (pc + 1) ls (.int z :: rest))) : W p l e R s m args below meth c H locs cells slots Q (F0 m pc ls (.int x :: rest)) := lv_i2b hx hb hdg rfl (kk _ rfl ⟨(lg_i2b_range x).1, Int.le_of_lt_add_one (lg_i2b_range x).2⟩)
/-- a Contents' sizes are sizes -/
theorem he_csz {a cq : Nat} (hJ : he_J dC dI dA κ B g H0 H locs) (ka : κ a = 320 + cq) (hq : cq < 14) : ∀ x : Nat, x < 9 → -1 ≤ g (340 + cq) x ∧ g (340 + cq) x ≤ 60 ∧ (0 < g (340 + cq) x → x ≠ 0 ∧ x ≠ 3) := by
  obtain ⟨⟨F, hM, hO⟩, -⟩ := hJ
  have h := hO a 0
  rw [ka, hk_t320 (by omega), he_s320 (by omega)] at h
  obtain ⟨b, -, hb⟩ := (show ∃ b : Nat, F a 0 = .ref b ∧ κ b = 340 + cq from h (by decide))
  intro x hx9
  have h2 := hO b x
  rw [hb, hk_t340 (by omega), he_s340 (by omega)] at h2
  obtain ⟨y, -, h3⟩ := he_ok_i (he13_n _) (h2 hx9)
  have h4 := he13_i h3
  omega
end HNX
