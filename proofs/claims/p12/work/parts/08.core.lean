/-! THE HEAP AS A MEMORY: F a k is the value of slot k of the cell at a; κ a is the kind of the cell at a (0: none of ours); g kd k is the number that an exact slot of a kind holds. -/
abbrev hp_F : Type := Nat → Nat → Value
abbrev hp_A (B : Nat) : Nat → Prop := fun q => B ≤ q
def hs_i (e : Int) (sp : Nat × Nat) (x : Int) : Prop := match sp.1 with
  | 0 => x = e
  | 1 => True
  | 2 => 0 ≤ x ∧ x ≤ (sp.2 : Int)
  | 3 => -1 ≤ x ∧ x ≤ (sp.2 : Int)
  | 5 => -128 ≤ x ∧ x ≤ 127
  | _ => False
def hs_ok (κ : Nat → Nat) (e : Int) (sp : Nat × Nat) (v : Value) : Prop := match sp.1 with
  | 4 => ∃ b : Nat, v = .ref b ∧ κ b = sp.2
  | 7 => True
  | _ => ∃ x : Int32, v = .int x ∧ hs_i e sp x.toInt
def hs_n (sp : Nat × Nat) : Bool := match sp.1 with
  | 4 => false
  | 7 => false
  | _ => true
theorem hs_ok_i {κ : Nat → Nat} {e : Int} {sp : Nat × Nat} {v : Value} (hn : hs_n sp = true) (h : hs_ok κ e sp v) : ∃ x : Int32, v = .int x ∧ hs_i e sp x.toInt := by
  obtain ⟨a, b⟩ := sp
  match a, hn, h with
  | 0, _, h => exact h
  | 1, _, h => exact h
  | 2, _, h => exact h
  | 3, _, h => exact h
  | 5, _, h => exact h
  | 6, _, h => exact h
  | n + 8, _, h => exact h
theorem hs_i_ok {κ : Nat → Nat} {e : Int} {sp : Nat × Nat} {x : Int32} (hn : hs_n sp = true) (h : hs_i e sp x.toInt) : hs_ok κ e sp (.int x) := by
  obtain ⟨a, b⟩ := sp
  match a, hn, h with
  | 0, _, h => exact ⟨x, rfl, h⟩
  | 1, _, h => exact ⟨x, rfl, h⟩
  | 2, _, h => exact ⟨x, rfl, h⟩
  | 3, _, h => exact ⟨x, rfl, h⟩
  | 5, _, h => exact ⟨x, rfl, h⟩
  | 6, _, h => exact ⟨x, rfl, h⟩
  | n + 8, _, h => exact ⟨x, rfl, h⟩
def hp_at (dC : Nat → ClassId) (dI : Nat → Nat → Nat) (dA : Nat → ClassId) (q : Nat × Nat × Nat) (V : Nat → Value) (a : Nat) (H : Heap) : Prop := match q.1 with
  | 0 => True
  | 1 => t_OB a (dC q.2.1) q.2.2 (dI q.2.1) H V
  | _ => H[a]? = some (arrV (dA q.2.1) q.2.2 V)
theorem hp_at.kept {dC : Nat → ClassId} {dI : Nat → Nat → Nat} {dA : Nat → ClassId} {q : Nat × Nat × Nat} {V : Nat → Value} {a : Nat} {H H1 : Heap} (h : hp_at dC dI dA q V a H) (hq : H1[a]? = H[a]?) : hp_at dC dI dA q V a H1 := by
  obtain ⟨x, y, z⟩ := q
  match x, h with
  | 0, _ => exact trivial
  | 1, h => exact t_OB.kept h hq
  | n + 2, h => exact hq.trans h
def hp_M (dC : Nat → ClassId) (dI : Nat → Nat → Nat) (dA : Nat → ClassId) (κ : Nat → Nat) (F : hp_F) (H : Heap) : Prop := ∀ a : Nat, hp_at dC dI dA (hk_t (κ a)) (F a) a H
def hp_O (κ : Nat → Nat) (g : Nat → Nat → Int) (F : hp_F) : Prop := ∀ a k : Nat, k < (hk_t (κ a)).2.2 → hs_ok κ (g (κ a) k) (hk_s (κ a) k) (F a k)
def hp_W (κ : Nat → Nat) (B : Nat) : Prop := (∀ a : Nat, κ a ≠ 0 → B ≤ a) ∧ ∀ a b : Nat, hk_x (κ a) = true → κ a = κ b → a = b
def hp_u (F : hp_F) (a k : Nat) (v : Value) : hp_F := fun b => if b = a then updV (F b) k v else F b
def hp_ug (g : Nat → Nat → Int) (kd k : Nat) (x : Int) : Nat → Nat → Int := fun a b => if a = kd ∧ b = k then x else g a b
theorem hp_ug_s (g : Nat → Nat → Int) (kd k : Nat) (x : Int) : hp_ug g kd k x kd k = x := if_pos ⟨rfl, rfl⟩
theorem hp_ug_n {g : Nat → Nat → Int} {kd k a b : Nat} {x : Int} (h : ¬ (a = kd ∧ b = k)) : hp_ug g kd k x a b = g a b := if_neg h
theorem hp_set {dC : Nat → ClassId} {dI : Nat → Nat → Nat} {dA : Nat → ClassId} {κ : Nat → Nat} {F : hp_F} {H H1 : Heap} {a k : Nat} {v : Value} (hM : hp_M dC dI dA κ F H) (hat : hp_at dC dI dA (hk_t (κ a)) (updV (F a) k v) a H1) (oq : ∀ q : Nat, q ≠ a → H1[q]? = H[q]?) : hp_M dC dI dA κ (hp_u F a k v) H1 := by
  intro b
  by_cases hb : b = a
  · subst hb
    unfold hp_u
    rw [if_pos rfl]
    exact hat
  · unfold hp_u
    rw [if_neg hb]
    exact (hM b).kept (oq b hb)
theorem hp_setO {κ : Nat → Nat} {g : Nat → Nat → Int} {F : hp_F} {a k : Nat} {v : Value} (hO : hp_O κ g F) (hv : hs_ok κ (g (κ a) k) (hk_s (κ a) k) v) : hp_O κ g (hp_u F a k v) := by
  intro b j hj
  by_cases hb : b = a
  · subst hb
    unfold hp_u
    rw [if_pos rfl]
    by_cases hk : j = k
    · subst hk
      unfold updV
      rw [if_pos rfl]
      exact hv
    · unfold updV
      rw [if_neg hk]
      exact hO b j hj
  · unfold hp_u
    rw [if_neg hb]
    exact hO b j hj
theorem hp_setX {κ : Nat → Nat} {g : Nat → Nat → Int} {F : hp_F} {B a k kd : Nat} {v : Value} {x : Int} (hO : hp_O κ g F) (hW : hp_W κ B) (hκ : κ a = kd) (hx : hk_x kd = true) (hv : hs_ok κ x (hk_s kd k) v) : hp_O κ (hp_ug g kd k x) (hp_u F a k v) := by
  intro b j hj
  by_cases hb : b = a
  · subst hb
    unfold hp_u
    rw [if_pos rfl]
    by_cases hk : j = k
    · subst hk
      unfold updV
      rw [if_pos rfl, hκ, hp_ug_s]
      exact hv
    · unfold updV
      rw [if_neg hk, hp_ug_n (fun q => hk q.2)]
      exact hO b j hj
  · have hne : ¬ κ b = kd := fun q => hb (hW.2 b a (by rw [q]; exact hx) (by rw [q, hκ]))
    unfold hp_u
    rw [if_neg hb, hp_ug_n (fun q => hne q.1)]
    exact hO b j hj
/-- the world between two instructions: the memory holds in the heap H, and nothing below B was written since H0 -/
def hp_J (dC : Nat → ClassId) (dI : Nat → Nat → Nat) (dA : Nat → ClassId) (κ : Nat → Nat) (B : Nat) (g : Nat → Nat → Int) (H0 H : Heap) (locs : List Loc) : Prop := (∃ F : hp_F, hp_M dC dI dA κ F H ∧ hp_O κ g F) ∧ va_S (hp_A B) H0 H locs
def hp_ty (dA : Nat → ClassId) : List (ClassId × FieldType) := [(dA 0, .int), (dA 1, .byte), (dA 2, .boolean), (dA 3, .object RPort), (dA 4, .object RNeighbor)]
/-- a state with the world κ, g behind B -/
def hp_S (dC : Nat → ClassId) (dI : Nat → Nat → Nat) (dA : Nat → ClassId) (κ : Nat → Nat) (B : Nat) (g : Nat → Nat → Int) (U : State) : Prop := va_K (dC, dI) vwCl (hp_ty dA) U ∧ hp_N U ∧ hp_W κ B ∧ ∃ F : hp_F, hp_M dC dI dA κ F U.heap ∧ hp_O κ g F
theorem hp_S.moved {dC : Nat → ClassId} {dI : Nat → Nat → Nat} {dA : Nat → ClassId} {κ : Nat → Nat} {B : Nat} {g : Nat → Nat → Int} {u U : State} (hh : U.heap = u.heap) (hvm : u.vm.Alike U.vm) (hN : hp_N U) (h : hp_S dC dI dA κ B g u) : hp_S dC dI dA κ B g U := by
  obtain ⟨h1, -, h2, h3⟩ := h
  refine ⟨va_K.moved hvm h1, hN, h2, ?_⟩
  rw [hh]
  exact h3
theorem hi_lt {x y : Int32} : (x < y) ↔ x.toInt < y.toInt := Int32.lt_iff_toInt_lt
theorem hi_le {x y : Int32} : (x ≤ y) ↔ x.toInt ≤ y.toInt := Int32.le_iff_toInt_le
theorem hi_eq {x y : Int32} : (x = y) ↔ x.toInt = y.toInt := Int32.toInt_inj.symm
theorem hi_cl {x : Int32} (h : 0 ≤ x.toInt) : ((x.toNatClampNeg : Nat) : Int) = x.toInt := by
  show ((x.toInt.toNat : Nat) : Int) = x.toInt
  omega
theorem hi_0 : (0 : Int32).toInt = 0 := rfl
theorem hi_in {i : Int32} {n : Nat} (h0 : 0 ≤ i.toInt) (h1 : i.toInt < n) : vp_in i n := vp_in_iff.mpr ⟨h0, h1⟩
theorem hi_lo (x : Int32) : -2147483648 ≤ x.toInt := Int32.le_toInt x
theorem hi_hi (x : Int32) : x.toInt ≤ 2147483647 := by
  have := Int32.toInt_lt x
  omega
theorem hi_bm {z : Int} (h1 : -2147483648 ≤ z) (h2 : z ≤ 2147483647) : z.bmod (2 ^ 32) = z := by
  rw [Int.bmod_def]; omega
theorem hi_add {x y : Int32} (h1 : -2147483648 ≤ x.toInt + y.toInt) (h2 : x.toInt + y.toInt ≤ 2147483647) : (x + y).toInt = x.toInt + y.toInt := by rw [Int32.toInt_add, hi_bm h1 h2]
theorem hi_sub {x y : Int32} (h1 : -2147483648 ≤ x.toInt - y.toInt) (h2 : x.toInt - y.toInt ≤ 2147483647) : (x - y).toInt = x.toInt - y.toInt := by rw [Int32.toInt_sub, hi_bm h1 h2]
theorem hi_mul {x y : Int32} {z : Int} (hz : x.toInt * y.toInt = z) (h1 : -2147483648 ≤ z) (h2 : z ≤ 2147483647) : (x * y).toInt = z := by rw [Int32.toInt_mul, hz, hi_bm h1 h2]
theorem hi_ofInt {n : Int} (h1 : -2147483648 ≤ n) (h2 : n ≤ 2147483647) : (Int32.ofInt n).toInt = n := Int32.toInt_ofInt_of_le (by omega) (by omega)
theorem hp_S.of {dC : Nat → ClassId} {dI : Nat → Nat → Nat} {dA : Nat → ClassId} {κ : Nat → Nat} {B : Nat} {g : Nat → Nat → Int} {H0 H : Heap} {locs : List Loc} {s t : State} (hK : va_K (dC, dI) vwCl (hp_ty dA) s) (hN : hp_N s) (hW : hp_W κ B) (hJ : hp_J dC dI dA κ B g H0 H locs) (ht : t.heap = H) (hw : s.WarmedH t.vm) : hp_S dC dI dA κ B g t := by
  refine ⟨va_K.moved hw.alike hK, hp_N.warm hw hN, hW, ?_⟩
  rw [ht]
  exact hJ.1
abbrev hp_Pre (dC : Nat → ClassId) (dI : Nat → Nat → Nat) (dA : Nat → ClassId) (κ : Nat → Nat) (B : Nat) (g : Nat → Nat → Int) (av : List Value) : Array Value → State → Prop := va_Pc av (hp_S dC dI dA κ B g)
abbrev hp_Qi (dC : Nat → ClassId) (dI : Nat → Nat → Nat) (dA : Nat → ClassId) (κ : Nat → Nat) (B : Nat) (post : Int32 → (Nat → Nat → Int) → Prop) : Array Value → State → Outcome → State → Prop := va_Qi post (fun u t => hp_S dC dI dA κ B u t) (hp_A B)
abbrev hp_Qv (dC : Nat → ClassId) (dI : Nat → Nat → Nat) (dA : Nat → ClassId) (κ : Nat → Nat) (B : Nat) (post : (Nat → Nat → Int) → Prop) : Array Value → State → Outcome → State → Prop := va_Qv post (fun u t => hp_S dC dI dA κ B u t) (hp_A B)
abbrev hp_Qr (dC : Nat → ClassId) (dI : Nat → Nat → Nat) (dA : Nat → ClassId) (κ : Nat → Nat) (B : Nat) (kd : Nat) (post : (Nat → Nat → Int) → Prop) : Array Value → State → Outcome → State → Prop := va_Qr post (fun u a t => hp_S dC dI dA κ B u t ∧ κ a = kd) (hp_A B)
theorem hp_blind {dC : Nat → ClassId} {dI : Nat → Nat → Nat} {dA : Nat → ClassId} {κ : Nat → Nat} {B : Nat} {g : Nat → Nat → Int} {av : List Value} : FrameBlind (hp_Pre dC dI dA κ B g av) := by
  intro a U f mk h
  obtain ⟨h0, h1, h2, h3, h4⟩ := h
  exact ⟨h0, va_K.moved (u := U) (U := U.calling f mk a) (Vm.Alike.refl U.vm) h1, hp_N.same rfl h2, h3, h4⟩
theorem hp_preS {dC : Nat → ClassId} {dI : Nat → Nat → Nat} {dA : Nat → ClassId} {κ : Nat → Nat} {B : Nat} {g : Nat → Nat → Int} {H0 H : Heap} {locs : List Loc} {s : State} (As : List Value) (hK : va_K (dC, dI) vwCl (hp_ty dA) s) (hN : hp_N s) (hW : hp_W κ B) (hJ : hp_J dC dI dA κ B g H0 H locs) : PreS s H (hp_Pre dC dI dA κ B g As) As :=
  ⟨hp_blind, fun _ hU hw => ⟨rfl, hp_S.of hK hN hW hJ hU hw⟩⟩
theorem hp_preV {dC : Nat → ClassId} {dI : Nat → Nat → Nat} {dA : Nat → ClassId} {κ : Nat → Nat} {B : Nat} {g : Nat → Nat → Int} {H0 H : Heap} {locs : List Loc} {s : State} {b kd ci N : Nat} {q : vw_C} (As : List Value) (hK : va_K (dC, dI) vwCl (hp_ty dA) s) (hN : hp_N s) (hW : hp_W κ B) (hJ : hp_J dC dI dA κ B g H0 H locs) (hκ : κ b = kd) (ht : hk_t kd = (1, ci, N)) (hc : vwCl[ci]? = some q) : PreV s H q.1 b (hp_Pre dC dI dA κ B g (.ref b :: As)) As := by
  refine ⟨hp_blind, ?_, fun _ hU hw => ⟨rfl, hp_S.of hK hN hW hJ hU hw⟩⟩
  obtain ⟨⟨F, hM, -⟩, -⟩ := hJ
  have h := hM b
  rw [hκ, ht] at h
  obtain ⟨cell, h1, h2, h3, -⟩ := (show t_OB b (dC ci) N (dI ci) H (F b) from h)
  exact ⟨cell, h1, by rw [h3]; rfl, by rw [h2]; exact (hK.1 ci q hc).2.1⟩
theorem hi_and {x y : Int32} {k : Nat} {n : Int} (hy : y.toInt = n) (hn : n = 2 ^ k - 1) (hk : k ≤ 30) : 0 ≤ (x &&& y).toInt ∧ (x &&& y).toInt ≤ n := by
  have h30 : (2 : Int) ^ k ≤ 2 ^ 30 := by exact_mod_cast Nat.pow_le_pow_right (by decide : 0 < 2) hk
  have h1 : (1 : Int) ≤ 2 ^ k := by exact_mod_cast Nat.one_le_two_pow
  have h6 : (2 : Nat) ^ k ≤ 2 ^ 30 := Nat.pow_le_pow_right (by decide) hk
  have h4 : ((2 ^ k - 1 : Nat) : Int) = 2 ^ k - 1 := by
    rw [Int.natCast_sub Nat.one_le_two_pow]; simp
  have hb : y.toBitVec.toNat = 2 ^ k - 1 := by
    have hy2 : y = nI (2 ^ k - 1) := hi_eq.mpr (by rw [hy, hn, nI_toInt (by omega), h4])
    rw [hy2, pk_tn (by omega)]
  have h := pk_and x k hb
  rw [h]
  have hlt : x.toBitVec.toNat % 2 ^ k < 2 ^ k := Nat.mod_lt _ (Nat.two_pow_pos k)
  have h5 : ((2 ^ k : Nat) : Int) = 2 ^ k := by simp
  rw [nI_toInt (by omega)]
  omega
theorem hs13_n (c : Prop) [Decidable c] : hs_n (if c then (3, 0) else (3, 60)) = true := by split <;> rfl
theorem hs13_i {e : Int} {q : Nat} {x : Int} (h : hs_i e (if q = 0 ∨ q = 3 then (3, 0) else (3, 60)) x) : -1 ≤ x ∧ x ≤ 60 ∧ (0 < x → q ≠ 0 ∧ q ≠ 3) := by
  split at h
  · have h : -1 ≤ x ∧ x ≤ ((0 : Nat) : Int) := h
    omega
  · have h : -1 ≤ x ∧ x ≤ ((60 : Nat) : Int) := h
    omega
theorem hs13_o {e : Int} {q : Nat} {x : Int} (h : -1 ≤ x ∧ x ≤ 60) (h2 : 0 < x → q ≠ 0 ∧ q ≠ 3) : hs_i e (if q = 0 ∨ q = 3 then (3, 0) else (3, 60)) x := by
  split
  · show -1 ≤ x ∧ x ≤ ((0 : Nat) : Int)
    omega
  · show -1 ≤ x ∧ x ≤ ((60 : Nat) : Int)
    omega
theorem hi_bool {v : Int32} (h : v.toInt = 0 ∨ v.toInt = 1) : narrow .boolean (.int v) = .int v := by
  rcases h with h | h
  · rw [show v = 0 from hi_eq.mpr h]; rfl
  · rw [show v = 1 from hi_eq.mpr h]; rfl
section HPW
variable {p : Program} {l : Launch} {e : Env} {R : Room} {s : State} {m : MethodId} {args : Array Value} {below : List Frame} {meth : Method} {c : Code} {H : Heap} {locs : List Loc} {cells slots : Nat} {Q : State → Prop}
variable {cc : ByteArray} {pc : Nat} {ls : Array Slot} {rest st0 : List Value}
variable {dC : Nat → ClassId} {dI : Nat → Nat → Nat} {dA : Nat → ClassId} {κ : Nat → Nat} {B : Nat} {g : Nat → Nat → Int} {H0 : Heap} {a : Nat}
-- numbers
theorem hq_iconst (hx : p.tables.exec = Jvm.exec) (hb : c.code = cc) {n : Int} (hdg : decode cc pc = .ok (.iconst n, 1)) (h1 : -2147483648 ≤ n) (h2 : n ≤ 2147483647)
    (kk : ∀ z : Int32, z.toInt = n → W p l e R s m args below meth c H locs cells slots Q (F0 m (pc + 1) ls (.int z :: rest))) : W p l e R s m args below meth c H locs cells slots Q (F0 m (pc) ls (rest)) := lv_iconst hx hb hdg rfl (kk _ (hi_ofInt h1 h2))
theorem hq_bipush (hx : p.tables.exec = Jvm.exec) (hb : c.code = cc) {n : Int} (hdg : decode cc pc = .ok (.bipush n, 2)) (h1 : (Int8.ofInt n).toInt32.toInt = n)
    (kk : ∀ z : Int32, z.toInt = n → W p l e R s m args below meth c H locs cells slots Q (F0 m (pc + 2) ls (.int z :: rest))) : W p l e R s m args below meth c H locs cells slots Q (F0 m (pc) ls (rest)) := lv_bipush hx hb hdg rfl (kk _ h1)
theorem hq_sipush (hx : p.tables.exec = Jvm.exec) (hb : c.code = cc) {n : Int} (hdg : decode cc pc = .ok (.sipush n, 3)) (h1 : (Int16.ofInt n).toInt32.toInt = n)
    (kk : ∀ z : Int32, z.toInt = n → W p l e R s m args below meth c H locs cells slots Q (F0 m (pc + 3) ls (.int z :: rest))) : W p l e R s m args below meth c H locs cells slots Q (F0 m (pc) ls (rest)) := lv_sipush hx hb hdg rfl (kk _ h1)
theorem hq_iadd (hx : p.tables.exec = Jvm.exec) (hb : c.code = cc) {x y : Int32} (hdg : decode cc pc = .ok (.iadd, 1)) (h1 : -2147483648 ≤ x.toInt + y.toInt) (h2 : x.toInt + y.toInt ≤ 2147483647)
    (kk : ∀ z : Int32, z.toInt = x.toInt + y.toInt → W p l e R s m args below meth c H locs cells slots Q (F0 m (pc + 1) ls (.int z :: rest))) : W p l e R s m args below meth c H locs cells slots Q (F0 m (pc) ls (.int y :: .int x :: rest)) := lv_iadd hx hb hdg (kk _ (hi_add h1 h2))
theorem hq_isub (hx : p.tables.exec = Jvm.exec) (hb : c.code = cc) {x y : Int32} (hdg : decode cc pc = .ok (.isub, 1)) (h1 : -2147483648 ≤ x.toInt - y.toInt) (h2 : x.toInt - y.toInt ≤ 2147483647)
    (kk : ∀ z : Int32, z.toInt = x.toInt - y.toInt → W p l e R s m args below meth c H locs cells slots Q (F0 m (pc + 1) ls (.int z :: rest))) : W p l e R s m args below meth c H locs cells slots Q (F0 m (pc) ls (.int y :: .int x :: rest)) := lv_isub hx hb hdg (kk _ (hi_sub h1 h2))
theorem hq_imul (hx : p.tables.exec = Jvm.exec) (hb : c.code = cc) {x y : Int32} (hdg : decode cc pc = .ok (.imul, 1)) {w : Int} (hw : x.toInt * y.toInt = w) (h1 : -2147483648 ≤ w) (h2 : w ≤ 2147483647)
    (kk : ∀ z : Int32, z.toInt = w → W p l e R s m args below meth c H locs cells slots Q (F0 m (pc + 1) ls (.int z :: rest))) : W p l e R s m args below meth c H locs cells slots Q (F0 m (pc) ls (.int y :: .int x :: rest)) := lv_imul hx hb hdg (kk _ (hi_mul hw h1 h2))
theorem hq_iaddU (hx : p.tables.exec = Jvm.exec) (hb : c.code = cc) {x y : Int32} (hdg : decode cc pc = .ok (.iadd, 1))
    (kk : ∀ z : Int32, W p l e R s m args below meth c H locs cells slots Q (F0 m (pc + 1) ls (.int z :: rest))) : W p l e R s m args below meth c H locs cells slots Q (F0 m (pc) ls (.int y :: .int x :: rest)) := lv_iadd hx hb hdg (kk _)
theorem hq_isubU (hx : p.tables.exec = Jvm.exec) (hb : c.code = cc) {x y : Int32} (hdg : decode cc pc = .ok (.isub, 1))
    (kk : ∀ z : Int32, W p l e R s m args below meth c H locs cells slots Q (F0 m (pc + 1) ls (.int z :: rest))) : W p l e R s m args below meth c H locs cells slots Q (F0 m (pc) ls (.int y :: .int x :: rest)) := lv_isub hx hb hdg (kk _)
theorem hq_imulU (hx : p.tables.exec = Jvm.exec) (hb : c.code = cc) {x y : Int32} (hdg : decode cc pc = .ok (.imul, 1))
    (kk : ∀ z : Int32, W p l e R s m args below meth c H locs cells slots Q (F0 m (pc + 1) ls (.int z :: rest))) : W p l e R s m args below meth c H locs cells slots Q (F0 m (pc) ls (.int y :: .int x :: rest)) := lv_imul hx hb hdg (kk _)
theorem hq_iandU (hx : p.tables.exec = Jvm.exec) (hb : c.code = cc) {x y : Int32} (hdg : decode cc pc = .ok (.iand, 1))
    (kk : ∀ z : Int32, W p l e R s m args below meth c H locs cells slots Q (F0 m (pc + 1) ls (.int z :: rest))) : W p l e R s m args below meth c H locs cells slots Q (F0 m (pc) ls (.int y :: .int x :: rest)) := lv_iand hx hb hdg (kk _)
theorem hq_iorU (hx : p.tables.exec = Jvm.exec) (hb : c.code = cc) {x y : Int32} (hdg : decode cc pc = .ok (.ior, 1))
    (kk : ∀ z : Int32, W p l e R s m args below meth c H locs cells slots Q (F0 m (pc + 1) ls (.int z :: rest))) : W p l e R s m args below meth c H locs cells slots Q (F0 m (pc) ls (.int y :: .int x :: rest)) := lv_ior hx hb hdg (kk _)
theorem hq_ixorU (hx : p.tables.exec = Jvm.exec) (hb : c.code = cc) {x y : Int32} (hdg : decode cc pc = .ok (.ixor, 1))
    (kk : ∀ z : Int32, W p l e R s m args below meth c H locs cells slots Q (F0 m (pc + 1) ls (.int z :: rest))) : W p l e R s m args below meth c H locs cells slots Q (F0 m (pc) ls (.int y :: .int x :: rest)) := lv_ixor hx hb hdg (kk _)
theorem hq_ishlU (hx : p.tables.exec = Jvm.exec) (hb : c.code = cc) {x y : Int32} (hdg : decode cc pc = .ok (.ishl, 1))
    (kk : ∀ z : Int32, W p l e R s m args below meth c H locs cells slots Q (F0 m (pc + 1) ls (.int z :: rest))) : W p l e R s m args below meth c H locs cells slots Q (F0 m (pc) ls (.int y :: .int x :: rest)) := lv_ishl hx hb hdg (kk _)
theorem hq_ishrU (hx : p.tables.exec = Jvm.exec) (hb : c.code = cc) {x y : Int32} (hdg : decode cc pc = .ok (.ishr, 1))
    (kk : ∀ z : Int32, W p l e R s m args below meth c H locs cells slots Q (F0 m (pc + 1) ls (.int z :: rest))) : W p l e R s m args below meth c H locs cells slots Q (F0 m (pc) ls (.int y :: .int x :: rest)) := lv_ishr hx hb hdg (kk _)
theorem hq_i2b (hx : p.tables.exec = Jvm.exec) (hb : c.code = cc) {x : Int32} (hdg : decode cc pc = .ok (.i2b, 1))
    (kk : ∀ z : Int32, W p l e R s m args below meth c H locs cells slots Q (F0 m (pc + 1) ls (.int z :: rest))) : W p l e R s m args below meth c H locs cells slots Q (F0 m (pc) ls (.int x :: rest)) := lv_i2b hx hb hdg rfl (kk _)
theorem hq_iinc (hx : p.tables.exec = Jvm.exec) (hb : c.code = cc) {i nL k : Nat} {n : Int} {x : Int32} {lv : List (Nat × Value)} {lv' : Int32 → List (Nat × Value)} (hdg : decode cc pc = .ok (.iinc i n, 3)) (h : lv_has ls nL lv) (hk : lv[k]? = some (i, .int x)) (h1 : -2147483648 ≤ n) (h2 : n ≤ 2147483647) (h3 : -2147483648 ≤ x.toInt + n) (h4 : x.toInt + n ≤ 2147483647) (hn : i < nL) (hl : ∀ v : Int32, (i, Value.int v) :: lv.filter (fun q => !(q.1 == i) && !(q.1 + 1 == i && q.2.category == 2)) = lv' v)
    (kk : ∀ (z : Int32) (ls' : Array Slot), z.toInt = x.toInt + n → lv_has ls' nL (lv' z) → W p l e R s m args below meth c H locs cells slots Q (F0 m (pc + 3) ls' (rest))) : W p l e R s m args below meth c H locs cells slots Q (F0 m (pc) ls (rest)) := lv_iinc hx hb hdg h hk rfl hn (hl _) (fun ls' h' => kk _ ls' (by rw [hi_add (by rw [hi_ofInt h1 h2]; exact h3) (by rw [hi_ofInt h1 h2]; exact h4), hi_ofInt h1 h2]) h')
theorem hq_iincU (hx : p.tables.exec = Jvm.exec) (hb : c.code = cc) {i nL k : Nat} {n : Int} {x : Int32} {lv : List (Nat × Value)} {lv' : Int32 → List (Nat × Value)} (hdg : decode cc pc = .ok (.iinc i n, 3)) (h : lv_has ls nL lv) (hk : lv[k]? = some (i, .int x)) (hn : i < nL) (hl : ∀ v : Int32, (i, Value.int v) :: lv.filter (fun q => !(q.1 == i) && !(q.1 + 1 == i && q.2.category == 2)) = lv' v)
    (kk : ∀ (z : Int32) (ls' : Array Slot), lv_has ls' nL (lv' z) → W p l e R s m args below meth c H locs cells slots Q (F0 m (pc + 3) ls' (rest))) : W p l e R s m args below meth c H locs cells slots Q (F0 m (pc) ls (rest)) := lv_iinc hx hb hdg h hk rfl hn (hl _) (fun ls' h' => kk _ ls' h')
-- branches
theorem hq_icmp_eq (hx : p.tables.exec = Jvm.exec) (hb : c.code = cc) {x y : Int32} {off : Int} {tgt : Nat} (hdg : decode cc pc = .ok (.if_icmp .eq off, 3)) (ht : (pc : Int) + off = (tgt : Int))
    (kt : x.toInt = y.toInt → W p l e R s m args below meth c H locs cells slots Q (F0 m (tgt) ls (rest))) (kf : ¬ x.toInt = y.toInt → W p l e R s m args below meth c H locs cells slots Q (F0 m (pc + 3) ls (rest))) : W p l e R s m args below meth c H locs cells slots Q (F0 m (pc) ls (.int y :: .int x :: rest)) := lv_icmp_eq hx hb hdg ht (fun h => kt (hi_eq.mp h)) (fun h => kf (fun q => h (hi_eq.mpr q)))
theorem hq_if_eq (hx : p.tables.exec = Jvm.exec) (hb : c.code = cc) {x : Int32} {off : Int} {tgt : Nat} (hdg : decode cc pc = .ok (.ifCond .eq off, 3)) (ht : (pc : Int) + off = (tgt : Int))
    (kt : x.toInt = 0 → W p l e R s m args below meth c H locs cells slots Q (F0 m (tgt) ls (rest))) (kf : ¬ x.toInt = 0 → W p l e R s m args below meth c H locs cells slots Q (F0 m (pc + 3) ls (rest))) : W p l e R s m args below meth c H locs cells slots Q (F0 m (pc) ls (.int x :: rest)) := lv_if_eq hx hb hdg ht (fun h => kt (hi_eq.mp h)) (fun h => kf (fun q => h (hi_eq.mpr q)))
theorem hq_icmp_ne (hx : p.tables.exec = Jvm.exec) (hb : c.code = cc) {x y : Int32} {off : Int} {tgt : Nat} (hdg : decode cc pc = .ok (.if_icmp .ne off, 3)) (ht : (pc : Int) + off = (tgt : Int))
    (kt : ¬ x.toInt = y.toInt → W p l e R s m args below meth c H locs cells slots Q (F0 m (tgt) ls (rest))) (kf : x.toInt = y.toInt → W p l e R s m args below meth c H locs cells slots Q (F0 m (pc + 3) ls (rest))) : W p l e R s m args below meth c H locs cells slots Q (F0 m (pc) ls (.int y :: .int x :: rest)) := lv_icmp_ne hx hb hdg ht (fun h => kt (fun q => h (hi_eq.mpr q))) (fun h => kf (hi_eq.mp h))
theorem hq_if_ne (hx : p.tables.exec = Jvm.exec) (hb : c.code = cc) {x : Int32} {off : Int} {tgt : Nat} (hdg : decode cc pc = .ok (.ifCond .ne off, 3)) (ht : (pc : Int) + off = (tgt : Int))
    (kt : ¬ x.toInt = 0 → W p l e R s m args below meth c H locs cells slots Q (F0 m (tgt) ls (rest))) (kf : x.toInt = 0 → W p l e R s m args below meth c H locs cells slots Q (F0 m (pc + 3) ls (rest))) : W p l e R s m args below meth c H locs cells slots Q (F0 m (pc) ls (.int x :: rest)) := lv_if_ne hx hb hdg ht (fun h => kt (fun q => h (hi_eq.mpr q))) (fun h => kf (hi_eq.mp h))
theorem hq_icmp_lt (hx : p.tables.exec = Jvm.exec) (hb : c.code = cc) {x y : Int32} {off : Int} {tgt : Nat} (hdg : decode cc pc = .ok (.if_icmp .lt off, 3)) (ht : (pc : Int) + off = (tgt : Int))
    (kt : x.toInt < y.toInt → W p l e R s m args below meth c H locs cells slots Q (F0 m (tgt) ls (rest))) (kf : y.toInt ≤ x.toInt → W p l e R s m args below meth c H locs cells slots Q (F0 m (pc + 3) ls (rest))) : W p l e R s m args below meth c H locs cells slots Q (F0 m (pc) ls (.int y :: .int x :: rest)) := lv_icmp_lt hx hb hdg ht (fun h => kt (hi_lt.mp h)) (fun h => kf (Int.not_lt.mp (fun q => h (hi_lt.mpr q))))
theorem hq_if_lt (hx : p.tables.exec = Jvm.exec) (hb : c.code = cc) {x : Int32} {off : Int} {tgt : Nat} (hdg : decode cc pc = .ok (.ifCond .lt off, 3)) (ht : (pc : Int) + off = (tgt : Int))
    (kt : x.toInt < 0 → W p l e R s m args below meth c H locs cells slots Q (F0 m (tgt) ls (rest))) (kf : 0 ≤ x.toInt → W p l e R s m args below meth c H locs cells slots Q (F0 m (pc + 3) ls (rest))) : W p l e R s m args below meth c H locs cells slots Q (F0 m (pc) ls (.int x :: rest)) := lv_if_lt hx hb hdg ht (fun h => kt (hi_lt.mp h)) (fun h => kf (Int.not_lt.mp (fun q => h (hi_lt.mpr q))))
theorem hq_icmp_ge (hx : p.tables.exec = Jvm.exec) (hb : c.code = cc) {x y : Int32} {off : Int} {tgt : Nat} (hdg : decode cc pc = .ok (.if_icmp .ge off, 3)) (ht : (pc : Int) + off = (tgt : Int))
    (kt : y.toInt ≤ x.toInt → W p l e R s m args below meth c H locs cells slots Q (F0 m (tgt) ls (rest))) (kf : x.toInt < y.toInt → W p l e R s m args below meth c H locs cells slots Q (F0 m (pc + 3) ls (rest))) : W p l e R s m args below meth c H locs cells slots Q (F0 m (pc) ls (.int y :: .int x :: rest)) := lv_icmp_ge hx hb hdg ht (fun h => kt (hi_le.mp h)) (fun h => kf (Int.not_le.mp (fun q => h (hi_le.mpr q))))
theorem hq_if_ge (hx : p.tables.exec = Jvm.exec) (hb : c.code = cc) {x : Int32} {off : Int} {tgt : Nat} (hdg : decode cc pc = .ok (.ifCond .ge off, 3)) (ht : (pc : Int) + off = (tgt : Int))
    (kt : 0 ≤ x.toInt → W p l e R s m args below meth c H locs cells slots Q (F0 m (tgt) ls (rest))) (kf : x.toInt < 0 → W p l e R s m args below meth c H locs cells slots Q (F0 m (pc + 3) ls (rest))) : W p l e R s m args below meth c H locs cells slots Q (F0 m (pc) ls (.int x :: rest)) := lv_if_ge hx hb hdg ht (fun h => kt (hi_le.mp h)) (fun h => kf (Int.not_le.mp (fun q => h (hi_le.mpr q))))
theorem hq_icmp_gt (hx : p.tables.exec = Jvm.exec) (hb : c.code = cc) {x y : Int32} {off : Int} {tgt : Nat} (hdg : decode cc pc = .ok (.if_icmp .gt off, 3)) (ht : (pc : Int) + off = (tgt : Int))
    (kt : y.toInt < x.toInt → W p l e R s m args below meth c H locs cells slots Q (F0 m (tgt) ls (rest))) (kf : x.toInt ≤ y.toInt → W p l e R s m args below meth c H locs cells slots Q (F0 m (pc + 3) ls (rest))) : W p l e R s m args below meth c H locs cells slots Q (F0 m (pc) ls (.int y :: .int x :: rest)) := lv_icmp_gt hx hb hdg ht (fun h => kt (hi_lt.mp h)) (fun h => kf (Int.not_lt.mp (fun q => h (hi_lt.mpr q))))
theorem hq_if_gt (hx : p.tables.exec = Jvm.exec) (hb : c.code = cc) {x : Int32} {off : Int} {tgt : Nat} (hdg : decode cc pc = .ok (.ifCond .gt off, 3)) (ht : (pc : Int) + off = (tgt : Int))
    (kt : 0 < x.toInt → W p l e R s m args below meth c H locs cells slots Q (F0 m (tgt) ls (rest))) (kf : x.toInt ≤ 0 → W p l e R s m args below meth c H locs cells slots Q (F0 m (pc + 3) ls (rest))) : W p l e R s m args below meth c H locs cells slots Q (F0 m (pc) ls (.int x :: rest)) := lv_if_gt hx hb hdg ht (fun h => kt (hi_lt.mp h)) (fun h => kf (Int.not_lt.mp (fun q => h (hi_lt.mpr q))))
theorem hq_icmp_le (hx : p.tables.exec = Jvm.exec) (hb : c.code = cc) {x y : Int32} {off : Int} {tgt : Nat} (hdg : decode cc pc = .ok (.if_icmp .le off, 3)) (ht : (pc : Int) + off = (tgt : Int))
    (kt : x.toInt ≤ y.toInt → W p l e R s m args below meth c H locs cells slots Q (F0 m (tgt) ls (rest))) (kf : y.toInt < x.toInt → W p l e R s m args below meth c H locs cells slots Q (F0 m (pc + 3) ls (rest))) : W p l e R s m args below meth c H locs cells slots Q (F0 m (pc) ls (.int y :: .int x :: rest)) := lv_icmp_le hx hb hdg ht (fun h => kt (hi_le.mp h)) (fun h => kf (Int.not_le.mp (fun q => h (hi_le.mpr q))))
theorem hq_if_le (hx : p.tables.exec = Jvm.exec) (hb : c.code = cc) {x : Int32} {off : Int} {tgt : Nat} (hdg : decode cc pc = .ok (.ifCond .le off, 3)) (ht : (pc : Int) + off = (tgt : Int))
    (kt : x.toInt ≤ 0 → W p l e R s m args below meth c H locs cells slots Q (F0 m (tgt) ls (rest))) (kf : 0 < x.toInt → W p l e R s m args below meth c H locs cells slots Q (F0 m (pc + 3) ls (rest))) : W p l e R s m args below meth c H locs cells slots Q (F0 m (pc) ls (.int x :: rest)) := lv_if_le hx hb hdg ht (fun h => kt (hi_le.mp h)) (fun h => kf (Int.not_le.mp (fun q => h (hi_le.mpr q))))
theorem hq_iandm (hx : p.tables.exec = Jvm.exec) (hb : c.code = cc) {x y : Int32} {k : Nat} {n : Int} (hdg : decode cc pc = .ok (.iand, 1)) (hy : y.toInt = n) (hn : n = 2 ^ k - 1 ∧ k ≤ 30)
    (kk : ∀ z : Int32, 0 ≤ z.toInt ∧ z.toInt ≤ n → W p l e R s m args below meth c H locs cells slots Q (F0 m (pc + 1) ls (.int z :: rest))) : W p l e R s m args below meth c H locs cells slots Q (F0 m (pc) ls (.int y :: .int x :: rest)) := lv_iand hx hb hdg (kk _ (hi_and hy hn.1 hn.2))
-- fields
theorem hp_getv (hx : p.tables.exec = Jvm.exec) (hb : c.code = cc) {own ref C : String} {T : u_T} {N ci index kd : Nat} {Ts : List Cond} (hts : ∀ w ∈ Ts, w.before args s = true) (hin : ∀ w ∈ u_ws C T N, w ∈ Ts) (hown : s.vm.findClass own = some m.cls) (hK : va_K (dC, dI) vwCl (hp_ty dA) s) (hJ : hp_J dC dI dA κ B g H0 H locs) (hκ : κ a = kd) (ht : hk_t kd = (1, ci, N)) (hc : vwCl[ci]? = some (C, T, N)) (k : Nat) (hk : k < N) (hlink : (Cond.fieldLink own index ref (T k).2.1 (T k).2.2.1).before args s = true) (hsame : ∀ x, s.fieldFound? (T k).1 (T k).2.1 (T k).2.2.1 = some x → s.fieldFound? ref (T k).2.1 (T k).2.2.1 = some x) (hdg : decode cc pc = .ok (.getfield index, 3))
    (kk : ∀ v : Value, hs_ok κ (g kd k) (hk_s kd k) v → W p l e R s m args below meth c H locs cells slots Q (F0 m (pc + 3) ls (v :: rest))) : W p l e R s m args below meth c H locs cells slots Q (F0 m (pc) ls (.ref a :: rest)) := by
  obtain ⟨⟨F, hM, hO⟩, -⟩ := hJ
  have h := hM a
  have ho := hO a k
  rw [hκ, ht] at h
  rw [hκ, ht] at ho
  obtain ⟨cell, q1, q2, q3, q4⟩ := (show t_OB a (dC ci) N (dI ci) H (F a) from h)
  obtain ⟨hS, hfc, kC, hkC, hkind⟩ := hK.1 ci _ hc
  obtain ⟨cf, kf, fi, f, hi, hsl⟩ := hS k hk
  refine W.getf hx hb hown hlink (hsame _ hi) (u_facts hfc hkC (u_lays hts hin hk) hi).1 q1 (by rw [q3]; exact fun h => by cases h) (v := F a k) ?_ rfl rfl hdg (kk _ (ho hk))
  rw [hsl, q4 k hk]
theorem hp_geti (hx : p.tables.exec = Jvm.exec) (hb : c.code = cc) {own ref C : String} {T : u_T} {N ci index kd : Nat} {Ts : List Cond} (hts : ∀ w ∈ Ts, w.before args s = true) (hin : ∀ w ∈ u_ws C T N, w ∈ Ts) (hown : s.vm.findClass own = some m.cls) (hK : va_K (dC, dI) vwCl (hp_ty dA) s) (hJ : hp_J dC dI dA κ B g H0 H locs) (hκ : κ a = kd) (ht : hk_t kd = (1, ci, N)) (hc : vwCl[ci]? = some (C, T, N)) (k : Nat) (hk : k < N) (hlink : (Cond.fieldLink own index ref (T k).2.1 (T k).2.2.1).before args s = true) (hsame : ∀ x, s.fieldFound? (T k).1 (T k).2.1 (T k).2.2.1 = some x → s.fieldFound? ref (T k).2.1 (T k).2.2.1 = some x) {sp : Nat × Nat} (hs : hk_s kd k = sp) (hn : hs_n sp = true) (hdg : decode cc pc = .ok (.getfield index, 3))
    (kk : ∀ x : Int32, hs_i (g kd k) sp x.toInt → W p l e R s m args below meth c H locs cells slots Q (F0 m (pc + 3) ls (.int x :: rest))) : W p l e R s m args below meth c H locs cells slots Q (F0 m (pc) ls (.ref a :: rest)) := by
  refine hp_getv hx hb hts hin hown hK hJ hκ ht hc k hk hlink hsame hdg (fun v hv => ?_)
  rw [hs] at hv
  obtain ⟨x, rfl, h⟩ := hs_ok_i hn hv
  exact kk x h
theorem hp_getr (hx : p.tables.exec = Jvm.exec) (hb : c.code = cc) {own ref C : String} {T : u_T} {N ci index kd : Nat} {Ts : List Cond} (hts : ∀ w ∈ Ts, w.before args s = true) (hin : ∀ w ∈ u_ws C T N, w ∈ Ts) (hown : s.vm.findClass own = some m.cls) (hK : va_K (dC, dI) vwCl (hp_ty dA) s) (hJ : hp_J dC dI dA κ B g H0 H locs) (hκ : κ a = kd) (ht : hk_t kd = (1, ci, N)) (hc : vwCl[ci]? = some (C, T, N)) (k : Nat) (hk : k < N) (hlink : (Cond.fieldLink own index ref (T k).2.1 (T k).2.2.1).before args s = true) (hsame : ∀ x, s.fieldFound? (T k).1 (T k).2.1 (T k).2.2.1 = some x → s.fieldFound? ref (T k).2.1 (T k).2.2.1 = some x) {k2 : Nat} (hs : hk_s kd k = (4, k2)) (hdg : decode cc pc = .ok (.getfield index, 3))
    (kk : ∀ b : Nat, κ b = k2 → W p l e R s m args below meth c H locs cells slots Q (F0 m (pc + 3) ls (.ref b :: rest))) : W p l e R s m args below meth c H locs cells slots Q (F0 m (pc) ls (.ref a :: rest)) := by
  refine hp_getv hx hb hts hin hown hK hJ hκ ht hc k hk hlink hsame hdg (fun v hv => ?_)
  rw [hs] at hv
  obtain ⟨b, rfl, h⟩ := (show ∃ b : Nat, v = .ref b ∧ κ b = k2 from hv)
  exact kk b h
theorem hp_putv (hx : p.tables.exec = Jvm.exec) (hb : c.code = cc) {own ref C : String} {T : u_T} {N ci index kd : Nat} {Ts : List Cond} (hts : ∀ w ∈ Ts, w.before args s = true) (hin : ∀ w ∈ u_ws C T N, w ∈ Ts) (hown : s.vm.findClass own = some m.cls) (hK : va_K (dC, dI) vwCl (hp_ty dA) s) (hJ : hp_J dC dI dA κ B g H0 H locs) (hκ : κ a = kd) (ht : hk_t kd = (1, ci, N)) (hc : vwCl[ci]? = some (C, T, N)) (k : Nat) (hk : k < N) (hlink : (Cond.fieldLink own index ref (T k).2.1 (T k).2.2.1).before args s = true) (hsame : ∀ x, s.fieldFound? (T k).1 (T k).2.1 (T k).2.2.1 = some x → s.fieldFound? ref (T k).2.1 (T k).2.2.1 = some x) (ty0 : Nat → FieldType) (hty : ∀ k, k < N → parseFieldDescriptor (T k).2.2.1 = some (ty0 k)) (hnm : ∀ a, a < N → ∀ b, b < N → a ≠ b → (T a).2.1 ≠ (T b).2.1) {v : Value} (hn : narrow (ty0 k) v = v) (hfit : fits (ty0 k) v = true) (h0 : kd ≠ 0) (hW : hp_W κ B) (hfin : (T k).2.2.2 = false) (hdg : decode cc pc = .ok (.putfield index, 3))
    (kk : ∀ (F : hp_F) (H1 : Heap) (locs1 : List Loc), hp_M dC dI dA κ (hp_u F a k v) H1 → hp_O κ g F → va_S (hp_A B) H0 H1 locs1 → W p l e R s m args below meth c H1 locs1 cells slots Q (F0 m (pc + 3) ls (rest))) : W p l e R s m args below meth c H locs cells slots Q (F0 m (pc) ls (v :: .ref a :: rest)) := by
  have hap := va_apart (own := own) (ci := ci) hts hin ty0 hty hnm hK hc
  obtain ⟨⟨F, hM, hO⟩, hS0⟩ := hJ
  have h := hM a
  rw [hκ, ht] at h
  obtain ⟨cell, q1, q2, q3, q4⟩ := (show t_OB a (dC ci) N (dI ci) H (F a) from h)
  obtain ⟨hS, hfc, kC, hkC, hkind⟩ := hK.1 ci _ hc
  obtain ⟨cf, kf, fi, f, hi, hsl⟩ := hS k hk
  have hlay := hts _ (hin _ (u_in_lay hk))
  unfold u_lay at hlay
  rw [if_neg (by rw [hfin]; decide)] at hlay
  have hst := (u_facts hfc hkC (u_lays hts hin hk) hi).1
  have h6 := u_store hfc hkC hkind hlay hi (hty k hk) hn hfit
  refine W.putK hx hb (f := f) ⟨hown, hlink, ⟨_, _, _, hsame _ hi⟩, hst⟩ (by rw [q2]; exact h6) q1 q3 (by rw [hsl]; exact k2_hasslot (q4 k hk)) rfl rfl hdg fun H' e1 e2 e3 => ?_
  rw [hsl] at e1 ⊢
  refine kk F H' _ (hp_set hM ?_ e3) hO (hS0.put e2 e3 (hW.1 a (by rw [hκ]; exact h0)))
  rw [hκ, ht]
  exact ⟨_, e1, q2, q3, t_set q4 hap hk v⟩
theorem hp_putF (hx : p.tables.exec = Jvm.exec) (hb : c.code = cc) {own ref C : String} {T : u_T} {N ci index kd : Nat} {Ts : List Cond} (hts : ∀ w ∈ Ts, w.before args s = true) (hin : ∀ w ∈ u_ws C T N, w ∈ Ts) (hown : s.vm.findClass own = some m.cls) (hK : va_K (dC, dI) vwCl (hp_ty dA) s) (hJ : hp_J dC dI dA κ B g H0 H locs) (hκ : κ a = kd) (ht : hk_t kd = (1, ci, N)) (hc : vwCl[ci]? = some (C, T, N)) (k : Nat) (hk : k < N) (hlink : (Cond.fieldLink own index ref (T k).2.1 (T k).2.2.1).before args s = true) (hsame : ∀ x, s.fieldFound? (T k).1 (T k).2.1 (T k).2.2.1 = some x → s.fieldFound? ref (T k).2.1 (T k).2.2.1 = some x) (ty0 : Nat → FieldType) (hty : ∀ k, k < N → parseFieldDescriptor (T k).2.2.1 = some (ty0 k)) (hnm : ∀ a, a < N → ∀ b, b < N → a ≠ b → (T a).2.1 ≠ (T b).2.1) {v : Value} (hn : narrow (ty0 k) v = v) (hfit : fits (ty0 k) v = true) (h0 : kd ≠ 0) (hW : hp_W κ B) (hfin : (T k).2.2.2 = true) (hin2 : meth.name = "<init>") (hdecl : (T k).1 = own) (hdg : decode cc pc = .ok (.putfield index, 3))
    (kk : ∀ (F : hp_F) (H1 : Heap) (locs1 : List Loc), hp_M dC dI dA κ (hp_u F a k v) H1 → hp_O κ g F → va_S (hp_A B) H0 H1 locs1 → W p l e R s m args below meth c H1 locs1 cells slots Q (F0 m (pc + 3) ls (rest))) : W p l e R s m args below meth c H locs cells slots Q (F0 m (pc) ls (v :: .ref a :: rest)) := by
  have hap := va_apart (own := own) (ci := ci) hts hin ty0 hty hnm hK hc
  obtain ⟨⟨F, hM, hO⟩, hS0⟩ := hJ
  have h := hM a
  rw [hκ, ht] at h
  obtain ⟨cell, q1, q2, q3, q4⟩ := (show t_OB a (dC ci) N (dI ci) H (F a) from h)
  obtain ⟨hS, hfc, kC, hkC, hkind⟩ := hK.1 ci _ hc
  obtain ⟨cf, kf, fi, f, hi, hsl⟩ := hS k hk
  have hlay := hts _ (hin _ (u_in_lay hk))
  unfold u_lay at hlay
  rw [if_pos hfin] at hlay
  have hst := (u_facts hfc hkC (u_lays hts hin hk) hi).1
  have hcf : m.cls = cf := by
    obtain ⟨_, _, c', _, _, _, -, -, hf', -, -, -, hown2, -⟩ := Cond.laysFinal_spec hlay
    have e1 : c' = cf := by have := hi.symm.trans hf'; simp at this; exact this.1.symm
    rw [hdecl] at hown2
    rw [← e1]; exact Option.some.inj (hown.symm.trans hown2)
  have h6 := u_fits hfc hkC hkind (Or.inr hlay) hi (hty k hk) hn hfit
  refine W.putFinK hx hb hown hlink (hsame _ hi) hst hcf hin2 (by rw [q2]; exact h6) q1 q3 (by rw [hsl]; exact k2_hasslot (q4 k hk)) rfl rfl hdg fun H' e1 e2 e3 => ?_
  rw [hsl] at e1 ⊢
  refine kk F H' _ (hp_set hM ?_ e3) hO (hS0.put e2 e3 (hW.1 a (by rw [hκ]; exact h0)))
  rw [hκ, ht]
  exact ⟨_, e1, q2, q3, t_set q4 hap hk v⟩
theorem hp_put (hx : p.tables.exec = Jvm.exec) (hb : c.code = cc) {own ref C : String} {T : u_T} {N ci index kd : Nat} {Ts : List Cond} (hts : ∀ w ∈ Ts, w.before args s = true) (hin : ∀ w ∈ u_ws C T N, w ∈ Ts) (hown : s.vm.findClass own = some m.cls) (hK : va_K (dC, dI) vwCl (hp_ty dA) s) (hJ : hp_J dC dI dA κ B g H0 H locs) (hκ : κ a = kd) (ht : hk_t kd = (1, ci, N)) (hc : vwCl[ci]? = some (C, T, N)) (k : Nat) (hk : k < N) (hlink : (Cond.fieldLink own index ref (T k).2.1 (T k).2.2.1).before args s = true) (hsame : ∀ x, s.fieldFound? (T k).1 (T k).2.1 (T k).2.2.1 = some x → s.fieldFound? ref (T k).2.1 (T k).2.2.1 = some x) (ty0 : Nat → FieldType) (hty : ∀ k, k < N → parseFieldDescriptor (T k).2.2.1 = some (ty0 k)) (hnm : ∀ a, a < N → ∀ b, b < N → a ≠ b → (T a).2.1 ≠ (T b).2.1) {v : Value} (hn : narrow (ty0 k) v = v) (hfit : fits (ty0 k) v = true) (h0 : kd ≠ 0) (hW : hp_W κ B) (hfin : (T k).2.2.2 = false) (hv : hs_ok κ (g kd k) (hk_s kd k) v) (hdg : decode cc pc = .ok (.putfield index, 3))
    (kk : ∀ (H1 : Heap) (locs1 : List Loc), hp_J dC dI dA κ B g H0 H1 locs1 → W p l e R s m args below meth c H1 locs1 cells slots Q (F0 m (pc + 3) ls (rest))) : W p l e R s m args below meth c H locs cells slots Q (F0 m (pc) ls (v :: .ref a :: rest)) := hp_putv hx hb hts hin hown hK hJ hκ ht hc k hk hlink hsame ty0 hty hnm hn hfit h0 hW hfin hdg (fun F H1 locs1 hM hO hS => kk H1 locs1 ⟨⟨_, hM, hp_setO hO (by rw [hκ]; exact hv)⟩, hS⟩)
theorem hp_putx (hx : p.tables.exec = Jvm.exec) (hb : c.code = cc) {own ref C : String} {T : u_T} {N ci index kd : Nat} {Ts : List Cond} (hts : ∀ w ∈ Ts, w.before args s = true) (hin : ∀ w ∈ u_ws C T N, w ∈ Ts) (hown : s.vm.findClass own = some m.cls) (hK : va_K (dC, dI) vwCl (hp_ty dA) s) (hJ : hp_J dC dI dA κ B g H0 H locs) (hκ : κ a = kd) (ht : hk_t kd = (1, ci, N)) (hc : vwCl[ci]? = some (C, T, N)) (k : Nat) (hk : k < N) (hlink : (Cond.fieldLink own index ref (T k).2.1 (T k).2.2.1).before args s = true) (hsame : ∀ x, s.fieldFound? (T k).1 (T k).2.1 (T k).2.2.1 = some x → s.fieldFound? ref (T k).2.1 (T k).2.2.1 = some x) (ty0 : Nat → FieldType) (hty : ∀ k, k < N → parseFieldDescriptor (T k).2.2.1 = some (ty0 k)) (hnm : ∀ a, a < N → ∀ b, b < N → a ≠ b → (T a).2.1 ≠ (T b).2.1) {x : Int32} (hn : narrow (ty0 k) (.int x) = .int x) (hfit : fits (ty0 k) (.int x) = true) (h0 : kd ≠ 0) (hW : hp_W κ B) (hfin : (T k).2.2.2 = false) (hxx : hk_x kd = true) (hs : hk_s kd k = (0, 0)) (hdg : decode cc pc = .ok (.putfield index, 3))
    (kk : ∀ (g1 : Nat → Nat → Int) (H1 : Heap) (locs1 : List Loc), g1 kd k = x.toInt → (∀ a b : Nat, ¬ (a = kd ∧ b = k) → g1 a b = g a b) → hp_J dC dI dA κ B g1 H0 H1 locs1 → W p l e R s m args below meth c H1 locs1 cells slots Q (F0 m (pc + 3) ls (rest))) : W p l e R s m args below meth c H locs cells slots Q (F0 m (pc) ls (.int x :: .ref a :: rest)) := hp_putv hx hb hts hin hown hK hJ hκ ht hc k hk hlink hsame ty0 hty hnm hn hfit h0 hW hfin hdg (fun F H1 locs1 hM hO hS => kk _ H1 locs1 (hp_ug_s _ _ _ _) (fun _ _ h => hp_ug_n h) ⟨⟨_, hM, hp_setX hO hW hκ hxx (by rw [hs]; exact ⟨x, rfl, rfl⟩)⟩, hS⟩)
-- arrays
theorem hp_ialv (hx : p.tables.exec = Jvm.exec) (hb : c.code = cc) {kd n : Nat} (hK : va_K (dC, dI) vwCl (hp_ty dA) s) (hJ : hp_J dC dI dA κ B g H0 H locs) (hκ : κ a = kd) (ht : hk_t kd = (2, 0, n)) {i : Int32} (h1 : 0 ≤ i.toInt) (h2 : i.toInt < (n : Int)) (hdg : decode cc pc = .ok (.iaload, 1))
    (kk : ∀ v : Value, hs_ok κ (g kd i.toInt.toNat) (hk_s kd i.toInt.toNat) v → W p l e R s m args below meth c H locs cells slots Q (F0 m (pc + 1) ls (v :: rest))) : W p l e R s m args below meth c H locs cells slots Q (F0 m (pc) ls (.int i :: .ref a :: rest)) := by
  obtain ⟨⟨F, hM, hO⟩, -⟩ := hJ
  have h := hM a
  have ho := hO a i.toInt.toNat
  rw [hκ, ht] at h
  rw [hκ, ht] at ho
  have hin := hi_in h1 h2
  have hlt : i.toNatClampNeg < n := Nat.not_le.mp fun q => hin (Or.inr q)
  exact W.iald (v := F a i.toInt.toNat) hx hb h ((hK.2 0 _ rfl).1 n (F a)) (fun q => by cases q) (by show ¬ (i < 0 ∨ (arrV _ _ _).slots.size ≤ _); rw [arrV_size]; exact hin) (arrV_read _ _ hlt) rfl rfl hdg (kk _ (ho hlt))
theorem hp_balv (hx : p.tables.exec = Jvm.exec) (hb : c.code = cc) {kd n : Nat} (hK : va_K (dC, dI) vwCl (hp_ty dA) s) (hJ : hp_J dC dI dA κ B g H0 H locs) (hκ : κ a = kd) (ht : hk_t kd = (2, 1, n)) {i : Int32} (h1 : 0 ≤ i.toInt) (h2 : i.toInt < (n : Int)) (hdg : decode cc pc = .ok (.baload, 1))
    (kk : ∀ v : Value, hs_ok κ (g kd i.toInt.toNat) (hk_s kd i.toInt.toNat) v → W p l e R s m args below meth c H locs cells slots Q (F0 m (pc + 1) ls (v :: rest))) : W p l e R s m args below meth c H locs cells slots Q (F0 m (pc) ls (.int i :: .ref a :: rest)) := by
  obtain ⟨⟨F, hM, hO⟩, -⟩ := hJ
  have h := hM a
  have ho := hO a i.toInt.toNat
  rw [hκ, ht] at h
  rw [hκ, ht] at ho
  have hin := hi_in h1 h2
  have hlt : i.toNatClampNeg < n := Nat.not_le.mp fun q => hin (Or.inr q)
  exact W.bald (v := F a i.toInt.toNat) hx hb h ((hK.2 1 _ rfl).1 n (F a)) (fun q => by cases q) (by show ¬ (i < 0 ∨ (arrV _ _ _).slots.size ≤ _); rw [arrV_size]; exact hin) (arrV_read _ _ hlt) rfl rfl hdg (kk _ (ho hlt))
theorem hp_zalv (hx : p.tables.exec = Jvm.exec) (hb : c.code = cc) {kd n : Nat} (hK : va_K (dC, dI) vwCl (hp_ty dA) s) (hJ : hp_J dC dI dA κ B g H0 H locs) (hκ : κ a = kd) (ht : hk_t kd = (2, 2, n)) {i : Int32} (h1 : 0 ≤ i.toInt) (h2 : i.toInt < (n : Int)) (hdg : decode cc pc = .ok (.baload, 1))
    (kk : ∀ v : Value, hs_ok κ (g kd i.toInt.toNat) (hk_s kd i.toInt.toNat) v → W p l e R s m args below meth c H locs cells slots Q (F0 m (pc + 1) ls (v :: rest))) : W p l e R s m args below meth c H locs cells slots Q (F0 m (pc) ls (.int i :: .ref a :: rest)) := by
  obtain ⟨⟨F, hM, hO⟩, -⟩ := hJ
  have h := hM a
  have ho := hO a i.toInt.toNat
  rw [hκ, ht] at h
  rw [hκ, ht] at ho
  have hin := hi_in h1 h2
  have hlt : i.toNatClampNeg < n := Nat.not_le.mp fun q => hin (Or.inr q)
  exact W.zald (v := F a i.toInt.toNat) hx hb h ((hK.2 2 _ rfl).1 n (F a)) (fun q => by cases q) (by show ¬ (i < 0 ∨ (arrV _ _ _).slots.size ≤ _); rw [arrV_size]; exact hin) (arrV_read _ _ hlt) rfl rfl hdg (kk _ (ho hlt))
theorem hp_aalv3 (hx : p.tables.exec = Jvm.exec) (hb : c.code = cc) {kd n : Nat} (hK : va_K (dC, dI) vwCl (hp_ty dA) s) (hJ : hp_J dC dI dA κ B g H0 H locs) (hκ : κ a = kd) (ht : hk_t kd = (2, 3, n)) {i : Int32} (h1 : 0 ≤ i.toInt) (h2 : i.toInt < (n : Int)) (hdg : decode cc pc = .ok (.aaload, 1))
    (kk : ∀ v : Value, hs_ok κ (g kd i.toInt.toNat) (hk_s kd i.toInt.toNat) v → W p l e R s m args below meth c H locs cells slots Q (F0 m (pc + 1) ls (v :: rest))) : W p l e R s m args below meth c H locs cells slots Q (F0 m (pc) ls (.int i :: .ref a :: rest)) := by
  obtain ⟨⟨F, hM, hO⟩, -⟩ := hJ
  have h := hM a
  have ho := hO a i.toInt.toNat
  rw [hκ, ht] at h
  rw [hκ, ht] at ho
  have hin := hi_in h1 h2
  have hlt : i.toNatClampNeg < n := Nat.not_le.mp fun q => hin (Or.inr q)
  exact W.aald (v := F a i.toInt.toNat) hx hb h ((hK.2 3 _ rfl).1 n (F a)) rfl (fun q => by cases q) (by show ¬ (i < 0 ∨ (arrV _ _ _).slots.size ≤ _); rw [arrV_size]; exact hin) (arrV_read _ _ hlt) rfl rfl hdg (kk _ (ho hlt))
theorem hp_aalv4 (hx : p.tables.exec = Jvm.exec) (hb : c.code = cc) {kd n : Nat} (hK : va_K (dC, dI) vwCl (hp_ty dA) s) (hJ : hp_J dC dI dA κ B g H0 H locs) (hκ : κ a = kd) (ht : hk_t kd = (2, 4, n)) {i : Int32} (h1 : 0 ≤ i.toInt) (h2 : i.toInt < (n : Int)) (hdg : decode cc pc = .ok (.aaload, 1))
    (kk : ∀ v : Value, hs_ok κ (g kd i.toInt.toNat) (hk_s kd i.toInt.toNat) v → W p l e R s m args below meth c H locs cells slots Q (F0 m (pc + 1) ls (v :: rest))) : W p l e R s m args below meth c H locs cells slots Q (F0 m (pc) ls (.int i :: .ref a :: rest)) := by
  obtain ⟨⟨F, hM, hO⟩, -⟩ := hJ
  have h := hM a
  have ho := hO a i.toInt.toNat
  rw [hκ, ht] at h
  rw [hκ, ht] at ho
  have hin := hi_in h1 h2
  have hlt : i.toNatClampNeg < n := Nat.not_le.mp fun q => hin (Or.inr q)
  exact W.aald (v := F a i.toInt.toNat) hx hb h ((hK.2 4 _ rfl).1 n (F a)) rfl (fun q => by cases q) (by show ¬ (i < 0 ∨ (arrV _ _ _).slots.size ≤ _); rw [arrV_size]; exact hin) (arrV_read _ _ hlt) rfl rfl hdg (kk _ (ho hlt))
theorem hp_iald (hx : p.tables.exec = Jvm.exec) (hb : c.code = cc) {kd n : Nat} (hK : va_K (dC, dI) vwCl (hp_ty dA) s) (hJ : hp_J dC dI dA κ B g H0 H locs) (hκ : κ a = kd) (ht : hk_t kd = (2, 0, n)) {i : Int32} (h1 : 0 ≤ i.toInt) (h2 : i.toInt < (n : Int)) {sp : Nat × Nat} (hs : hk_s kd i.toInt.toNat = sp) (hn : hs_n sp = true) (hdg : decode cc pc = .ok (.iaload, 1))
    (kk : ∀ x : Int32, hs_i (g kd i.toInt.toNat) sp x.toInt → W p l e R s m args below meth c H locs cells slots Q (F0 m (pc + 1) ls (.int x :: rest))) : W p l e R s m args below meth c H locs cells slots Q (F0 m (pc) ls (.int i :: .ref a :: rest)) := by
  refine hp_ialv hx hb hK hJ hκ ht h1 h2 hdg (fun v hv => ?_)
  rw [hs] at hv
  obtain ⟨x, rfl, h⟩ := hs_ok_i hn hv
  exact kk x h
theorem hp_bald (hx : p.tables.exec = Jvm.exec) (hb : c.code = cc) {kd n : Nat} (hK : va_K (dC, dI) vwCl (hp_ty dA) s) (hJ : hp_J dC dI dA κ B g H0 H locs) (hκ : κ a = kd) (ht : hk_t kd = (2, 1, n)) {i : Int32} (h1 : 0 ≤ i.toInt) (h2 : i.toInt < (n : Int)) {sp : Nat × Nat} (hs : hk_s kd i.toInt.toNat = sp) (hn : hs_n sp = true) (hdg : decode cc pc = .ok (.baload, 1))
    (kk : ∀ x : Int32, hs_i (g kd i.toInt.toNat) sp x.toInt → W p l e R s m args below meth c H locs cells slots Q (F0 m (pc + 1) ls (.int x :: rest))) : W p l e R s m args below meth c H locs cells slots Q (F0 m (pc) ls (.int i :: .ref a :: rest)) := by
  refine hp_balv hx hb hK hJ hκ ht h1 h2 hdg (fun v hv => ?_)
  rw [hs] at hv
  obtain ⟨x, rfl, h⟩ := hs_ok_i hn hv
  exact kk x h
theorem hp_zald (hx : p.tables.exec = Jvm.exec) (hb : c.code = cc) {kd n : Nat} (hK : va_K (dC, dI) vwCl (hp_ty dA) s) (hJ : hp_J dC dI dA κ B g H0 H locs) (hκ : κ a = kd) (ht : hk_t kd = (2, 2, n)) {i : Int32} (h1 : 0 ≤ i.toInt) (h2 : i.toInt < (n : Int)) {sp : Nat × Nat} (hs : hk_s kd i.toInt.toNat = sp) (hn : hs_n sp = true) (hdg : decode cc pc = .ok (.baload, 1))
    (kk : ∀ x : Int32, hs_i (g kd i.toInt.toNat) sp x.toInt → W p l e R s m args below meth c H locs cells slots Q (F0 m (pc + 1) ls (.int x :: rest))) : W p l e R s m args below meth c H locs cells slots Q (F0 m (pc) ls (.int i :: .ref a :: rest)) := by
  refine hp_zalv hx hb hK hJ hκ ht h1 h2 hdg (fun v hv => ?_)
  rw [hs] at hv
  obtain ⟨x, rfl, h⟩ := hs_ok_i hn hv
  exact kk x h
theorem hp_aald3 (hx : p.tables.exec = Jvm.exec) (hb : c.code = cc) {kd n : Nat} (hK : va_K (dC, dI) vwCl (hp_ty dA) s) (hJ : hp_J dC dI dA κ B g H0 H locs) (hκ : κ a = kd) (ht : hk_t kd = (2, 3, n)) {i : Int32} (h1 : 0 ≤ i.toInt) (h2 : i.toInt < (n : Int)) {k2 : Nat} (hs : hk_s kd i.toInt.toNat = (4, k2)) (hdg : decode cc pc = .ok (.aaload, 1))
    (kk : ∀ b : Nat, κ b = k2 → W p l e R s m args below meth c H locs cells slots Q (F0 m (pc + 1) ls (.ref b :: rest))) : W p l e R s m args below meth c H locs cells slots Q (F0 m (pc) ls (.int i :: .ref a :: rest)) := by
  refine hp_aalv3 hx hb hK hJ hκ ht h1 h2 hdg (fun v hv => ?_)
  rw [hs] at hv
  obtain ⟨b, rfl, h⟩ := (show ∃ b : Nat, v = .ref b ∧ κ b = k2 from hv)
  exact kk b h
theorem hp_aald4 (hx : p.tables.exec = Jvm.exec) (hb : c.code = cc) {kd n : Nat} (hK : va_K (dC, dI) vwCl (hp_ty dA) s) (hJ : hp_J dC dI dA κ B g H0 H locs) (hκ : κ a = kd) (ht : hk_t kd = (2, 4, n)) {i : Int32} (h1 : 0 ≤ i.toInt) (h2 : i.toInt < (n : Int)) {k2 : Nat} (hs : hk_s kd i.toInt.toNat = (4, k2)) (hdg : decode cc pc = .ok (.aaload, 1))
    (kk : ∀ b : Nat, κ b = k2 → W p l e R s m args below meth c H locs cells slots Q (F0 m (pc + 1) ls (.ref b :: rest))) : W p l e R s m args below meth c H locs cells slots Q (F0 m (pc) ls (.int i :: .ref a :: rest)) := by
  refine hp_aalv4 hx hb hK hJ hκ ht h1 h2 hdg (fun v hv => ?_)
  rw [hs] at hv
  obtain ⟨b, rfl, h⟩ := (show ∃ b : Nat, v = .ref b ∧ κ b = k2 from hv)
  exact kk b h
theorem hp_iasv (hx : p.tables.exec = Jvm.exec) (hb : c.code = cc) {kd n : Nat} (hK : va_K (dC, dI) vwCl (hp_ty dA) s) (hJ : hp_J dC dI dA κ B g H0 H locs) (hκ : κ a = kd) (ht : hk_t kd = (2, 0, n)) {i : Int32} (h1 : 0 ≤ i.toInt) (h2 : i.toInt < (n : Int)) {x : Int32} (h0 : kd ≠ 0) (hW : hp_W κ B) (hdg : decode cc pc = .ok (.iastore, 1))
    (kk : ∀ (F : hp_F) (H1 : Heap) (locs1 : List Loc), hp_M dC dI dA κ (hp_u F a i.toInt.toNat (.int x)) H1 → hp_O κ g F → va_S (hp_A B) H0 H1 locs1 → W p l e R s m args below meth c H1 locs1 cells slots Q (F0 m (pc + 1) ls (rest))) : W p l e R s m args below meth c H locs cells slots Q (F0 m (pc) ls (.int x :: .int i :: .ref a :: rest)) := by
  obtain ⟨⟨F, hM, hO⟩, hS0⟩ := hJ
  have h := hM a
  rw [hκ, ht] at h
  have hin := hi_in h1 h2
  refine W.iast hx hb h ((hK.2 0 _ rfl).1 n (F a)) (fun q => by cases q) (by show ¬ (i < 0 ∨ (arrV _ _ _).slots.size ≤ _); rw [arrV_size]; exact hin) rfl rfl hdg fun H' e1 e2 e3 => ?_
  refine kk F H' _ (hp_set hM ?_ e3) hO (hS0.put e2 e3 (hW.1 a (by rw [hκ]; exact h0)))
  rw [hκ, ht]
  exact e1.trans (congrArg some (arrV_store _ _ _ _ _))
theorem hp_basv (hx : p.tables.exec = Jvm.exec) (hb : c.code = cc) {kd n : Nat} (hK : va_K (dC, dI) vwCl (hp_ty dA) s) (hJ : hp_J dC dI dA κ B g H0 H locs) (hκ : κ a = kd) (ht : hk_t kd = (2, 1, n)) {i : Int32} (h1 : 0 ≤ i.toInt) (h2 : i.toInt < (n : Int)) {x : Int32} (h0 : kd ≠ 0) (hW : hp_W κ B) (hdg : decode cc pc = .ok (.bastore, 1))
    (kk : ∀ (F : hp_F) (H1 : Heap) (locs1 : List Loc), hp_M dC dI dA κ (hp_u F a i.toInt.toNat (narrow .byte (.int x))) H1 → hp_O κ g F → va_S (hp_A B) H0 H1 locs1 → W p l e R s m args below meth c H1 locs1 cells slots Q (F0 m (pc + 1) ls (rest))) : W p l e R s m args below meth c H locs cells slots Q (F0 m (pc) ls (.int x :: .int i :: .ref a :: rest)) := by
  obtain ⟨⟨F, hM, hO⟩, hS0⟩ := hJ
  have h := hM a
  rw [hκ, ht] at h
  have hin := hi_in h1 h2
  refine W.bast hx hb h ((hK.2 1 _ rfl).1 n (F a)) (fun q => by cases q) (by show ¬ (i < 0 ∨ (arrV _ _ _).slots.size ≤ _); rw [arrV_size]; exact hin) rfl rfl hdg fun H' e1 e2 e3 => ?_
  refine kk F H' _ (hp_set hM ?_ e3) hO (hS0.put e2 e3 (hW.1 a (by rw [hκ]; exact h0)))
  rw [hκ, ht]
  exact e1.trans (congrArg some (arrV_store _ _ _ _ _))
theorem hp_zasv (hx : p.tables.exec = Jvm.exec) (hb : c.code = cc) {kd n : Nat} (hK : va_K (dC, dI) vwCl (hp_ty dA) s) (hJ : hp_J dC dI dA κ B g H0 H locs) (hκ : κ a = kd) (ht : hk_t kd = (2, 2, n)) {i : Int32} (h1 : 0 ≤ i.toInt) (h2 : i.toInt < (n : Int)) {x : Int32} (h0 : kd ≠ 0) (hW : hp_W κ B) (hdg : decode cc pc = .ok (.bastore, 1))
    (kk : ∀ (F : hp_F) (H1 : Heap) (locs1 : List Loc), hp_M dC dI dA κ (hp_u F a i.toInt.toNat (narrow .boolean (.int x))) H1 → hp_O κ g F → va_S (hp_A B) H0 H1 locs1 → W p l e R s m args below meth c H1 locs1 cells slots Q (F0 m (pc + 1) ls (rest))) : W p l e R s m args below meth c H locs cells slots Q (F0 m (pc) ls (.int x :: .int i :: .ref a :: rest)) := by
  obtain ⟨⟨F, hM, hO⟩, hS0⟩ := hJ
  have h := hM a
  rw [hκ, ht] at h
  have hin := hi_in h1 h2
  refine W.zast hx hb h ((hK.2 2 _ rfl).1 n (F a)) (fun q => by cases q) (by show ¬ (i < 0 ∨ (arrV _ _ _).slots.size ≤ _); rw [arrV_size]; exact hin) rfl rfl hdg fun H' e1 e2 e3 => ?_
  refine kk F H' _ (hp_set hM ?_ e3) hO (hS0.put e2 e3 (hW.1 a (by rw [hκ]; exact h0)))
  rw [hκ, ht]
  exact e1.trans (congrArg some (arrV_store _ _ _ _ _))
theorem hp_iast (hx : p.tables.exec = Jvm.exec) (hb : c.code = cc) {kd n : Nat} (hK : va_K (dC, dI) vwCl (hp_ty dA) s) (hJ : hp_J dC dI dA κ B g H0 H locs) (hκ : κ a = kd) (ht : hk_t kd = (2, 0, n)) {i : Int32} (h1 : 0 ≤ i.toInt) (h2 : i.toInt < (n : Int)) {x : Int32} (h0 : kd ≠ 0) (hW : hp_W κ B) {sp : Nat × Nat} (hs : hk_s kd i.toInt.toNat = sp) (hn : hs_n sp = true) (hv : hs_i (g kd i.toInt.toNat) sp x.toInt) (hdg : decode cc pc = .ok (.iastore, 1))
    (kk : ∀ (H1 : Heap) (locs1 : List Loc), hp_J dC dI dA κ B g H0 H1 locs1 → W p l e R s m args below meth c H1 locs1 cells slots Q (F0 m (pc + 1) ls (rest))) : W p l e R s m args below meth c H locs cells slots Q (F0 m (pc) ls (.int x :: .int i :: .ref a :: rest)) := hp_iasv hx hb hK hJ hκ ht h1 h2 h0 hW hdg (fun F H1 locs1 hM hO hS => kk H1 locs1 ⟨⟨_, hM, hp_setO hO (by rw [hκ, hs]; exact hs_i_ok hn hv)⟩, hS⟩)
theorem hp_bast (hx : p.tables.exec = Jvm.exec) (hb : c.code = cc) {kd n : Nat} (hK : va_K (dC, dI) vwCl (hp_ty dA) s) (hJ : hp_J dC dI dA κ B g H0 H locs) (hκ : κ a = kd) (ht : hk_t kd = (2, 1, n)) {i : Int32} (h1 : 0 ≤ i.toInt) (h2 : i.toInt < (n : Int)) {x : Int32} (h0 : kd ≠ 0) (hW : hp_W κ B) (hs : hk_s kd i.toInt.toNat = (5, 0)) (hdg : decode cc pc = .ok (.bastore, 1))
    (kk : ∀ (H1 : Heap) (locs1 : List Loc), hp_J dC dI dA κ B g H0 H1 locs1 → W p l e R s m args below meth c H1 locs1 cells slots Q (F0 m (pc + 1) ls (rest))) : W p l e R s m args below meth c H locs cells slots Q (F0 m (pc) ls (.int x :: .int i :: .ref a :: rest)) := hp_basv hx hb hK hJ hκ ht h1 h2 h0 hW hdg (fun F H1 locs1 hM hO hS => kk H1 locs1 ⟨⟨_, hM, hp_setO hO (by rw [hκ, hs]; exact ⟨x.toInt8.toInt32, rfl, (lg_i2b_range x).1, Int.le_of_lt_add_one (lg_i2b_range x).2⟩)⟩, hS⟩)
theorem hp_zastx (hx : p.tables.exec = Jvm.exec) (hb : c.code = cc) {kd n : Nat} (hK : va_K (dC, dI) vwCl (hp_ty dA) s) (hJ : hp_J dC dI dA κ B g H0 H locs) (hκ : κ a = kd) (ht : hk_t kd = (2, 2, n)) {i : Int32} (h1 : 0 ≤ i.toInt) (h2 : i.toInt < (n : Int)) {x : Int32} (h0 : kd ≠ 0) (hW : hp_W κ B) (hxx : hk_x kd = true) (hb1 : narrow .boolean (.int x) = .int x) (hs : hk_s kd i.toInt.toNat = (0, 0)) (hdg : decode cc pc = .ok (.bastore, 1))
    (kk : ∀ (g1 : Nat → Nat → Int) (H1 : Heap) (locs1 : List Loc), g1 kd i.toInt.toNat = x.toInt → (∀ a b : Nat, ¬ (a = kd ∧ b = i.toInt.toNat) → g1 a b = g a b) → hp_J dC dI dA κ B g1 H0 H1 locs1 → W p l e R s m args below meth c H1 locs1 cells slots Q (F0 m (pc + 1) ls (rest))) : W p l e R s m args below meth c H locs cells slots Q (F0 m (pc) ls (.int x :: .int i :: .ref a :: rest)) := hp_zasv hx hb hK hJ hκ ht h1 h2 h0 hW hdg (fun F H1 locs1 hM hO hS => kk _ H1 locs1 (hp_ug_s _ _ _ _) (fun _ _ h => hp_ug_n h) ⟨⟨_, hM, hp_setX hO hW hκ hxx (by rw [hs, hb1]; exact ⟨x, rfl, rfl⟩)⟩, hS⟩)
theorem hp_iastx (hx : p.tables.exec = Jvm.exec) (hb : c.code = cc) {kd n : Nat} (hK : va_K (dC, dI) vwCl (hp_ty dA) s) (hJ : hp_J dC dI dA κ B g H0 H locs) (hκ : κ a = kd) (ht : hk_t kd = (2, 0, n)) {i : Int32} (h1 : 0 ≤ i.toInt) (h2 : i.toInt < (n : Int)) {x : Int32} (h0 : kd ≠ 0) (hW : hp_W κ B) (hxx : hk_x kd = true) (hs : hk_s kd i.toInt.toNat = (0, 0)) (hdg : decode cc pc = .ok (.iastore, 1))
    (kk : ∀ (g1 : Nat → Nat → Int) (H1 : Heap) (locs1 : List Loc), g1 kd i.toInt.toNat = x.toInt → (∀ a b : Nat, ¬ (a = kd ∧ b = i.toInt.toNat) → g1 a b = g a b) → hp_J dC dI dA κ B g1 H0 H1 locs1 → W p l e R s m args below meth c H1 locs1 cells slots Q (F0 m (pc + 1) ls (rest))) : W p l e R s m args below meth c H locs cells slots Q (F0 m (pc) ls (.int x :: .int i :: .ref a :: rest)) := hp_iasv hx hb hK hJ hκ ht h1 h2 h0 hW hdg (fun F H1 locs1 hM hO hS => kk _ H1 locs1 (hp_ug_s _ _ _ _) (fun _ _ h => hp_ug_n h) ⟨⟨_, hM, hp_setX hO hW hκ hxx (by rw [hs]; exact ⟨x, rfl, rfl⟩)⟩, hS⟩)
theorem hp_aast3 (hx : p.tables.exec = Jvm.exec) (hb : c.code = cc) {kd n : Nat} (hK : va_K (dC, dI) vwCl (hp_ty dA) s) (hJ : hp_J dC dI dA κ B g H0 H locs) (hκ : κ a = kd) (ht : hk_t kd = (2, 3, n)) {i : Int32} (h1 : 0 ≤ i.toInt) (h2 : i.toInt < (n : Int)) {b k2 ci N : Nat} {q : vw_C} (h0 : kd ≠ 0) (hW : hp_W κ B) (hs : hk_s kd i.toInt.toNat = (4, k2)) (hκb : κ b = k2) (htb : hk_t k2 = (1, ci, N)) (hc : vwCl[ci]? = some q) (hq : (hp_ty dA)[3]? = some (dA 3, .object q.1)) (hdg : decode cc pc = .ok (.aastore, 1))
    (kk : ∀ (H1 : Heap) (locs1 : List Loc), hp_J dC dI dA κ B g H0 H1 locs1 → W p l e R s m args below meth c H1 locs1 cells slots Q (F0 m (pc + 1) ls (rest))) : W p l e R s m args below meth c H locs cells slots Q (F0 m (pc) ls (.ref b :: .int i :: .ref a :: rest)) := by
  obtain ⟨⟨F, hM, hO⟩, hS0⟩ := hJ
  have h := hM a
  rw [hκ, ht] at h
  have hv := hM b
  rw [hκb, htb] at hv
  obtain ⟨cell, g1, g2, g3, -⟩ := (show t_OB b (dC ci) N (dI ci) H (F b) from hv)
  have hin := hi_in h1 h2
  have hlt : i.toNatClampNeg < n := Nat.not_le.mp fun q => hin (Or.inr q)
  have hi0 : ¬ i < 0 := fun q => hin (Or.inl q)
  have hcls := (hK.1 ci q hc).2
  obtain ⟨kA, comp, k1, k2', k3, -⟩ := (hK.2 3 _ hq).2
  have hcomp : comp = dC ci := Option.some.inj (k3.symm.trans hcls.1)
  subst hcomp
  obtain ⟨kC, hkC, -⟩ := id hcls.2
  refine W.aast hx hb h (fun q h => by cases h) (fun h => by cases h) k1 k2' rfl hkC ⟨hi0, by show _ < (arrV _ _ _).slots.size; rw [arrV_size]; exact hlt⟩ g1 (fun q h => by rw [g3] at h; cases h) (by rw [g2]; exact hkC) (by rw [g2]; exact va_assign hcls) rfl rfl hdg fun H' e1 e2 e3 => ?_
  refine kk H' _ ⟨⟨_, hp_set (k := i.toInt.toNat) (v := .ref b) hM ?_ e3, hp_setO hO (by rw [hκ, hs]; exact ⟨b, rfl, hκb⟩)⟩, hS0.put e2 e3 (hW.1 a (by rw [hκ]; exact h0))⟩
  rw [hκ, ht]
  exact e1.trans (congrArg some (arrV_store _ _ _ _ _))
theorem hp_aast4 (hx : p.tables.exec = Jvm.exec) (hb : c.code = cc) {kd n : Nat} (hK : va_K (dC, dI) vwCl (hp_ty dA) s) (hJ : hp_J dC dI dA κ B g H0 H locs) (hκ : κ a = kd) (ht : hk_t kd = (2, 4, n)) {i : Int32} (h1 : 0 ≤ i.toInt) (h2 : i.toInt < (n : Int)) {b k2 ci N : Nat} {q : vw_C} (h0 : kd ≠ 0) (hW : hp_W κ B) (hs : hk_s kd i.toInt.toNat = (4, k2)) (hκb : κ b = k2) (htb : hk_t k2 = (1, ci, N)) (hc : vwCl[ci]? = some q) (hq : (hp_ty dA)[4]? = some (dA 4, .object q.1)) (hdg : decode cc pc = .ok (.aastore, 1))
    (kk : ∀ (H1 : Heap) (locs1 : List Loc), hp_J dC dI dA κ B g H0 H1 locs1 → W p l e R s m args below meth c H1 locs1 cells slots Q (F0 m (pc + 1) ls (rest))) : W p l e R s m args below meth c H locs cells slots Q (F0 m (pc) ls (.ref b :: .int i :: .ref a :: rest)) := by
  obtain ⟨⟨F, hM, hO⟩, hS0⟩ := hJ
  have h := hM a
  rw [hκ, ht] at h
  have hv := hM b
  rw [hκb, htb] at hv
  obtain ⟨cell, g1, g2, g3, -⟩ := (show t_OB b (dC ci) N (dI ci) H (F b) from hv)
  have hin := hi_in h1 h2
  have hlt : i.toNatClampNeg < n := Nat.not_le.mp fun q => hin (Or.inr q)
  have hi0 : ¬ i < 0 := fun q => hin (Or.inl q)
  have hcls := (hK.1 ci q hc).2
  obtain ⟨kA, comp, k1, k2', k3, -⟩ := (hK.2 4 _ hq).2
  have hcomp : comp = dC ci := Option.some.inj (k3.symm.trans hcls.1)
  subst hcomp
  obtain ⟨kC, hkC, -⟩ := id hcls.2
  refine W.aast hx hb h (fun q h => by cases h) (fun h => by cases h) k1 k2' rfl hkC ⟨hi0, by show _ < (arrV _ _ _).slots.size; rw [arrV_size]; exact hlt⟩ g1 (fun q h => by rw [g3] at h; cases h) (by rw [g2]; exact hkC) (by rw [g2]; exact va_assign hcls) rfl rfl hdg fun H' e1 e2 e3 => ?_
  refine kk H' _ ⟨⟨_, hp_set (k := i.toInt.toNat) (v := .ref b) hM ?_ e3, hp_setO hO (by rw [hκ, hs]; exact ⟨b, rfl, hκb⟩)⟩, hS0.put e2 e3 (hW.1 a (by rw [hκ]; exact h0))⟩
  rw [hκ, ht]
  exact e1.trans (congrArg some (arrV_store _ _ _ _ _))
theorem hp_alen (hx : p.tables.exec = Jvm.exec) (hb : c.code = cc) {kd ty n : Nat} {q : ClassId × FieldType} (hK : va_K (dC, dI) vwCl (hp_ty dA) s) (hJ : hp_J dC dI dA κ B g H0 H locs) (hκ : κ a = kd) (ht : hk_t kd = (2, ty, n)) (hq : (hp_ty dA)[ty]? = some q) (hqa : q.1 = dA ty) (hn : n < 2147483648) (hdg : decode cc pc = .ok (.arraylength, 1))
    (kk : ∀ x : Int32, x.toInt = (n : Int) → W p l e R s m args below meth c H locs cells slots Q (F0 m (pc + 1) ls (.int x :: rest))) : W p l e R s m args below meth c H locs cells slots Q (F0 m (pc) ls (.ref a :: rest)) := by
  obtain ⟨⟨F, hM, hO⟩, -⟩ := hJ
  have h := hM a
  rw [hκ, ht] at h
  have h9 := (hK.2 ty q hq).1
  rw [hqa] at h9
  exact W.alen (n := Int32.ofNat n) hx hb h (h9 n (F a)) (by rw [show (arrV (dA ty) n (F a)).slots.size = n from arrV_size _ _ _] <;> rfl) rfl rfl hdg (kk _ (nI_toInt (n := n) (by omega)))
-- calls and returns
theorem hp_calli {post : Int32 → (Nat → Nat → Int) → Prop} {av : Array Value} (hr : va_Run p l e R s m args below meth c H locs cells slots 0 0 (F0 m pc ls st0) rest (hp_Qi dC dI dA κ B post av) (hp_A B)) (hJ : hp_J dC dI dA κ B g H0 H locs)
    (kk : ∀ (r : Int32) (g' : Nat → Nat → Int) (H1 : Heap) (locs1 : List Loc), post r g' → hp_J dC dI dA κ B g' H0 H1 locs1 → W p l e R s m args below meth c H1 locs1 cells slots Q (F0 m (pc + 3) ls (.int r :: rest))) : W p l e R s m args below meth c H locs cells slots Q (F0 m (pc) ls (st0)) := va_calli hr hJ.2 (fun _ _ h => h) (fun _ h => h) (fun r u t H1 locs1 ht hvm hp hb' _ _ hS => kk r u H1 locs1 hp ⟨by obtain ⟨-, -, -, h⟩ := hb'; rw [ht] at h; exact h, hS⟩)
theorem hp_callv {post : (Nat → Nat → Int) → Prop} {av : Array Value} (hr : va_Run p l e R s m args below meth c H locs cells slots 0 0 (F0 m pc ls st0) rest (hp_Qv dC dI dA κ B post av) (hp_A B)) (hJ : hp_J dC dI dA κ B g H0 H locs)
    (kk : ∀ (g' : Nat → Nat → Int) (H1 : Heap) (locs1 : List Loc), post g' → hp_J dC dI dA κ B g' H0 H1 locs1 → W p l e R s m args below meth c H1 locs1 cells slots Q (F0 m (pc + 3) ls (rest))) : W p l e R s m args below meth c H locs cells slots Q (F0 m (pc) ls (st0)) := va_callv hr hJ.2 (fun _ _ h => h) (fun _ h => h) (fun u t H1 locs1 ht hvm hp hb' _ _ hS => kk u H1 locs1 hp ⟨by obtain ⟨-, -, -, h⟩ := hb'; rw [ht] at h; exact h, hS⟩)
theorem hp_callr {kd : Nat} {post : (Nat → Nat → Int) → Prop} {av : Array Value} (hr : va_Run p l e R s m args below meth c H locs cells slots 0 0 (F0 m pc ls st0) rest (hp_Qr dC dI dA κ B kd post av) (hp_A B)) (hJ : hp_J dC dI dA κ B g H0 H locs)
    (kk : ∀ (b : Nat) (g' : Nat → Nat → Int) (H1 : Heap) (locs1 : List Loc), κ b = kd → post g' → hp_J dC dI dA κ B g' H0 H1 locs1 → W p l e R s m args below meth c H1 locs1 cells slots Q (F0 m (pc + 3) ls (.ref b :: rest))) : W p l e R s m args below meth c H locs cells slots Q (F0 m (pc) ls (st0)) := va_callr hr hJ.2 (fun _ _ h => h) (fun _ h => h) (fun u b t H1 locs1 ht hvm hp hb' _ _ hS => kk b u H1 locs1 hb'.2 hp ⟨by obtain ⟨⟨-, -, -, h⟩, -⟩ := hb'; rw [ht] at h; exact h, hS⟩)
theorem hp_iret (hx : p.tables.exec = Jvm.exec) (hb : c.code = cc) (hK : va_K (dC, dI) vwCl (hp_ty dA) s) (hN : hp_N s) (hW : hp_W κ B) (hlocks : meth.locks = false) (hJ : hp_J dC dI dA κ B g s.heap H locs) (hr : meth.sig.returnType = some .int) {post : Int32 → (Nat → Nat → Int) → Prop} {v : Int32} (hp : post v g) (hdg : decode cc pc = .ok (.ireturn, 1)) : W p l e R s m args below meth c H locs cells slots (MQ below (hp_Qi dC dI dA κ B post) args s cells slots (hp_A B)) (F0 m (pc) ls ([.int v])) :=
  W.iret hx hb hr (fun t ht hw => ⟨⟨v, g, rfl, hp, hp_S.of hK hN hW hJ ht hw⟩, hJ.2.F ht⟩) hJ.2.2.2 hdg hlocks
theorem hp_zret (hx : p.tables.exec = Jvm.exec) (hb : c.code = cc) (hK : va_K (dC, dI) vwCl (hp_ty dA) s) (hN : hp_N s) (hW : hp_W κ B) (hlocks : meth.locks = false) (hJ : hp_J dC dI dA κ B g s.heap H locs) (hr : meth.sig.returnType = some .boolean) {post : Int32 → (Nat → Nat → Int) → Prop} {v : Int32} (hv : v.toInt = 0 ∨ v.toInt = 1) (hp : post v g) (hdg : decode cc pc = .ok (.ireturn, 1)) : W p l e R s m args below meth c H locs cells slots (MQ below (hp_Qi dC dI dA κ B post) args s cells slots (hp_A B)) (F0 m (pc) ls ([.int v])) :=
  W.zret hx hb hr (hi_bool hv) (fun t ht hw => ⟨⟨v, g, rfl, hp, hp_S.of hK hN hW hJ ht hw⟩, hJ.2.F ht⟩) hJ.2.2.2 hdg hlocks
theorem hp_vret (hx : p.tables.exec = Jvm.exec) (hb : c.code = cc) (hK : va_K (dC, dI) vwCl (hp_ty dA) s) (hN : hp_N s) (hW : hp_W κ B) (hlocks : meth.locks = false) (hJ : hp_J dC dI dA κ B g s.heap H locs) (hr : meth.sig.returnType = none) {post : (Nat → Nat → Int) → Prop} (hp : post g) (hdg : decode cc pc = .ok (.return_, 1)) : W p l e R s m args below meth c H locs cells slots (MQ below (hp_Qv dC dI dA κ B post) args s cells slots (hp_A B)) (F0 m (pc) ls ([])) :=
  W.vret hx hb hr (fun t ht hw => ⟨⟨g, rfl, hp, hp_S.of hK hN hW hJ ht hw⟩, hJ.2.F ht⟩) hJ.2.2.2 hdg hlocks
theorem hp_aret (hx : p.tables.exec = Jvm.exec) (hb : c.code = cc) (hK : va_K (dC, dI) vwCl (hp_ty dA) s) (hN : hp_N s) (hW : hp_W κ B) (hlocks : meth.locks = false) (hJ : hp_J dC dI dA κ B g s.heap H locs) {C : String} (hr : meth.sig.returnType = some (.object C)) {kd b : Nat} {post : (Nat → Nat → Int) → Prop} (hκ : κ b = kd) (hp : post g) (hdg : decode cc pc = .ok (.areturn, 1)) : W p l e R s m args below meth c H locs cells slots (MQ below (hp_Qr dC dI dA κ B kd post) args s cells slots (hp_A B)) (F0 m (pc) ls ([.ref b])) :=
  W.aret hx hb hr (Or.inl ⟨_, rfl⟩) (Or.inr ⟨_, rfl⟩) (fun t ht hw => ⟨⟨g, b, rfl, hp, hp_S.of hK hN hW hJ ht hw, hκ⟩, hJ.2.F ht⟩) hJ.2.2.2 hdg hlocks
end HPW
