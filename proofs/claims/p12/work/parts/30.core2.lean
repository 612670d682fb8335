/-! THE EXACT WORLD: what a slot holds, with its number said -/
def he_i (e : Int) (sp : Nat × Nat) (x : Int) : Prop := match sp.1 with
  | 0 => x = e
  | 1 => True
  | 2 => 0 ≤ x ∧ x ≤ (sp.2 : Int)
  | 3 => -1 ≤ x ∧ x ≤ (sp.2 : Int)
  | 5 => -128 ≤ x ∧ x ≤ 127
  | 9 => x = e ∧ 0 ≤ x ∧ x ≤ (sp.2 : Int)
  | 10 => x = e ∧ -1 ≤ x ∧ x ≤ (sp.2 : Int)
  | 11 => x = e ∧ -128 ≤ x ∧ x ≤ 127
  | _ => False
def he_ok (κ : Nat → Nat) (e : Int) (sp : Nat × Nat) (v : Value) : Prop := match sp.1 with
  | 4 => ∃ b : Nat, v = .ref b ∧ κ b = sp.2
  | 6 => ∃ b c : Nat, v = .ref b ∧ c < 13 ∧ κ b = 320 + c ∧ e = 320 + (c : Int)
  | 7 => True
  | 8 => ∃ b j : Nat, v = .ref b ∧ j < 12 ∧ κ b = 300 + j ∧ e = 300 + (j : Int)
  | _ => ∃ x : Int32, v = .int x ∧ he_i e sp x.toInt
def he_n (sp : Nat × Nat) : Bool := match sp.1 with
  | 4 => false
  | 6 => false
  | 7 => false
  | 8 => false
  | _ => true
theorem he_ok_i {κ : Nat → Nat} {e : Int} {sp : Nat × Nat} {v : Value} (hn : he_n sp = true) (h : he_ok κ e sp v) : ∃ x : Int32, v = .int x ∧ he_i e sp x.toInt := by
  obtain ⟨a, b⟩ := sp
  match a, hn, h with
  | 0, _, h => exact h
  | 1, _, h => exact h
  | 2, _, h => exact h
  | 3, _, h => exact h
  | 5, _, h => exact h
  | n + 9, _, h => exact h
theorem he_i_ok {κ : Nat → Nat} {e : Int} {sp : Nat × Nat} {x : Int32} (hn : he_n sp = true) (h : he_i e sp x.toInt) : he_ok κ e sp (.int x) := by
  obtain ⟨a, b⟩ := sp
  match a, hn, h with
  | 0, _, h => exact ⟨x, rfl, h⟩
  | 1, _, h => exact ⟨x, rfl, h⟩
  | 2, _, h => exact ⟨x, rfl, h⟩
  | 3, _, h => exact ⟨x, rfl, h⟩
  | 5, _, h => exact ⟨x, rfl, h⟩
  | n + 9, _, h => exact ⟨x, rfl, h⟩
def he_P : List (Nat × Nat) := [(9, 1), (0, 0), (0, 0), (0, 0), (0, 0), (0, 0)]
def he_B : List (Nat × Nat) := [(4, 12), (9, 700), (4, 333), (4, 15), (4, 10), (4, 3), (4, 4), (1, 0), (1, 0), (1, 0), (0, 0), (0, 0)]
def he_Mo : List (Nat × Nat) := [(4, 38), (9, 700), (4, 18), (4, 19), (1, 0), (1, 0), (1, 0), (4, 20), (4, 21), (4, 22), (4, 23), (4, 24), (4, 25), (9, 12), (4, 26), (4, 27), (4, 28), (4, 29), (4, 30), (0, 0), (0, 0), (4, 39), (9, 700), (0, 0)]
def he_l : List (List (Nat × Nat) × (Nat × Nat)) := [([], (7, 0)), (he_B, (7, 0)), ([], (7, 0)), ([(6, 0), (9, 65535)], (7, 0)), ([(4, 17), (9, 439), (0, 0)], (7, 0)), (he_P, (7, 0)), (he_P, (7, 0)), (he_P, (7, 0)), (he_P, (7, 0)),
  ([], (7, 0)), ([(4, 16), (9, 12)], (7, 0)), (he_Mo, (7, 0)),
  ([], (11, 0)), ([], (7, 0)), ([], (7, 0)), ([(4, 5), (4, 6), (4, 7), (4, 8)], (7, 0)), ([], (8, 0)), ([], (5, 0)), ([], (5, 0)), ([], (3, 60)), ([], (9, 1)), ([], (0, 0)), ([], (0, 0)), ([], (0, 0)), ([], (0, 0)), ([], (0, 0)), ([], (9, 3)), ([], (0, 0)), ([], (0, 0)), ([], (11, 0)),
  ([], (10, 60)), ([], (7, 0)), ([], (7, 0)), ([], (7, 0)), ([], (7, 0)), ([], (7, 0)), ([], (7, 0)), ([], (7, 0)), ([], (11, 0)), ([], (5, 0))]
def he_f (kd k : Nat) : Nat × Nat :=
  if kd < 320 then ([(6, 0), (9, 3), (0, 0), (0, 0)] : List (Nat × Nat)).getD k (7, 0)
  else if kd < 340 then ([(4, kd + 20), (4, kd + 40)] : List (Nat × Nat)).getD k (7, 0)
  else if kd < 360 then (if k = 0 ∨ k = 3 then (10, 0) else (10, 60))
  else (11, 0)
def he_s (kd k : Nat) : Nat × Nat := if kd < 40 then (he_l.getD kd ([], (7, 0))).1.getD k (he_l.getD kd ([], (7, 0))).2 else he_f kd k
theorem he_sF {kd k : Nat} (h : 40 ≤ kd) : he_s kd k = he_f kd k := by
  unfold he_s
  rw [if_neg (by omega)]
theorem he_s5 {q : Nat} (h : q < 4) (k : Nat) : he_s (5 + q) k = he_P.getD k (7, 0) := by
  match q, h with
  | 0, _ => rfl
  | 1, _ => rfl
  | 2, _ => rfl
  | 3, _ => rfl
theorem he_s15 {q : Nat} (h : q < 4) : he_s 15 q = (4, 5 + q) := by
  match q, h with
  | 0, _ => rfl
  | 1, _ => rfl
  | 2, _ => rfl
  | 3, _ => rfl
theorem he_s300 {q : Nat} (h : q < 20) (k : Nat) : he_s (300 + q) k = ([(6, 0), (9, 3), (0, 0), (0, 0)] : List (Nat × Nat)).getD k (7, 0) := by
  rw [he_sF (by omega)]
  unfold he_f
  rw [if_pos (by omega)]
theorem he_s320 {q : Nat} (h : q < 20) (k : Nat) : he_s (320 + q) k = ([(4, 340 + q), (4, 360 + q)] : List (Nat × Nat)).getD k (7, 0) := by
  rw [he_sF (by omega)]
  unfold he_f
  rw [if_neg (by omega), if_pos (by omega), show 320 + q + 20 = 340 + q by omega, show 320 + q + 40 = 360 + q by omega]
theorem he_s340 {q : Nat} (h : q < 20) (k : Nat) : he_s (340 + q) k = if k = 0 ∨ k = 3 then (10, 0) else (10, 60) := by
  rw [he_sF (by omega)]
  unfold he_f
  rw [if_neg (by omega), if_neg (by omega), if_pos (by omega)]
theorem he_s360 {q : Nat} (h : q < 20) (k : Nat) : he_s (360 + q) k = (11, 0) := by
  rw [he_sF (by omega)]
  unfold he_f
  rw [if_neg (by omega), if_neg (by omega), if_neg (by omega)]
theorem he13_n (c : Prop) [Decidable c] : he_n (if c then (10, 0) else (10, 60)) = true := by split <;> rfl
theorem he13_i {e : Int} {q : Nat} {x : Int} (h : he_i e (if q = 0 ∨ q = 3 then (10, 0) else (10, 60)) x) : x = e ∧ -1 ≤ x ∧ x ≤ 60 ∧ (0 < x → q ≠ 0 ∧ q ≠ 3) := by
  split at h
  · have h : x = e ∧ -1 ≤ x ∧ x ≤ ((0 : Nat) : Int) := h
    omega
  · have h : x = e ∧ -1 ≤ x ∧ x ≤ ((60 : Nat) : Int) := h
    omega
theorem he13_o {q : Nat} {x : Int} (h : -1 ≤ x ∧ x ≤ 60) (h2 : 0 < x → q ≠ 0 ∧ q ≠ 3) : he_i x (if q = 0 ∨ q = 3 then (10, 0) else (10, 60)) x := by
  split
  · show x = x ∧ -1 ≤ x ∧ x ≤ ((0 : Nat) : Int)
    omega
  · show x = x ∧ -1 ≤ x ∧ x ≤ ((60 : Nat) : Int)
    omega
/-- only numbers that f names have changed -/
def hg_Q (f : Nat → Nat → Prop) (g g' : Nat → Nat → Int) : Prop := ∀ a b : Nat, ¬ f a b → g' a b = g a b
theorem hg_Q.rf {f : Nat → Nat → Prop} {g : Nat → Nat → Int} : hg_Q f g g := fun _ _ _ => rfl
theorem hg_Q.tr {f : Nat → Nat → Prop} {g g1 g2 : Nat → Nat → Int} (h : hg_Q f g g1) (h' : hg_Q f g1 g2) : hg_Q f g g2 := fun a b hf => (h' a b hf).trans (h a b hf)
theorem hg_Q.put {f : Nat → Nat → Prop} {g g1 g2 : Nat → Nat → Int} {kd k : Nat} (h : hg_Q f g g1) (h' : ∀ a b : Nat, ¬ (a = kd ∧ b = k) → g2 a b = g1 a b) (hf : f kd k) : hg_Q f g g2 := fun a b hab => (h' a b (fun q => hab (by rw [q.1, q.2]; exact hf))).trans (h a b hab)
theorem hg_Q.le {f f' : Nat → Nat → Prop} {g g' : Nat → Nat → Int} (h : hg_Q f g g') (hl : ∀ a b, f a b → f' a b) : hg_Q f' g g' := fun a b hab => h a b (fun q => hab (hl a b q))
def he_O (κ : Nat → Nat) (g : Nat → Nat → Int) (F : hp_F) : Prop := ∀ a k : Nat, k < (hk_t (κ a)).2.2 → he_ok κ (g (κ a) k) (he_s (κ a) k) (F a k)
theorem he_setO {κ : Nat → Nat} {g : Nat → Nat → Int} {F : hp_F} {a k : Nat} {v : Value} (hO : he_O κ g F) (hv : he_ok κ (g (κ a) k) (he_s (κ a) k) v) : he_O κ g (hp_u F a k v) := by
  intro b j hj
  by_cases hb : b = a
  · subst hb
    unfold hp_u
    rw [if_pos rfl]
    by_cases hk : j = k
    · subst hk
      unfold updV
      rw [if_pos rfl]
      exact hv
    · unfold updV
      rw [if_neg hk]
      exact hO b j hj
  · unfold hp_u
    rw [if_neg hb]
    exact hO b j hj
theorem he_setX {κ : Nat → Nat} {g : Nat → Nat → Int} {F : hp_F} {B a k kd : Nat} {v : Value} {x : Int} (hO : he_O κ g F) (hW : hp_W κ B) (hκ : κ a = kd) (hx : hk_x kd = true) (hv : he_ok κ x (he_s kd k) v) : he_O κ (hp_ug g kd k x) (hp_u F a k v) := by
  intro b j hj
  by_cases hb : b = a
  · subst hb
    unfold hp_u
    rw [if_pos rfl]
    by_cases hk : j = k
    · subst hk
      unfold updV
      rw [if_pos rfl, hκ, hp_ug_s]
      exact hv
    · unfold updV
      rw [if_neg hk, hp_ug_n (fun q => hk q.2)]
      exact hO b j hj
  · have hne : ¬ κ b = kd := fun q => hb (hW.2 b a (by rw [q]; exact hx) (by rw [q, hκ]))
    unfold hp_u
    rw [if_neg hb, hp_ug_n (fun q => hne q.1)]
    exact hO b j hj
def he_J (dC : Nat → ClassId) (dI : Nat → Nat → Nat) (dA : Nat → ClassId) (κ : Nat → Nat) (B : Nat) (g : Nat → Nat → Int) (H0 H : Heap) (locs : List Loc) : Prop := (∃ F : hp_F, hp_M dC dI dA κ F H ∧ he_O κ g F) ∧ va_S (hp_A B) H0 H locs
def he_S (dC : Nat → ClassId) (dI : Nat → Nat → Nat) (dA : Nat → ClassId) (κ : Nat → Nat) (B : Nat) (g : Nat → Nat → Int) (U : State) : Prop := va_K (dC, dI) vwCl (hp_ty dA) U ∧ hp_N U ∧ hp_W κ B ∧ ∃ F : hp_F, hp_M dC dI dA κ F U.heap ∧ he_O κ g F
theorem he_S.moved {dC : Nat → ClassId} {dI : Nat → Nat → Nat} {dA : Nat → ClassId} {κ : Nat → Nat} {B : Nat} {g : Nat → Nat → Int} {u U : State} (hh : U.heap = u.heap) (hvm : u.vm.Alike U.vm) (hN : hp_N U) (h : he_S dC dI dA κ B g u) : he_S dC dI dA κ B g U := by
  obtain ⟨h1, -, h2, h3⟩ := h
  refine ⟨va_K.moved hvm h1, hN, h2, ?_⟩
  rw [hh]
  exact h3
theorem he_S.of {dC : Nat → ClassId} {dI : Nat → Nat → Nat} {dA : Nat → ClassId} {κ : Nat → Nat} {B : Nat} {g : Nat → Nat → Int} {H0 H : Heap} {locs : List Loc} {s t : State} (hK : va_K (dC, dI) vwCl (hp_ty dA) s) (hN : hp_N s) (hW : hp_W κ B) (hJ : he_J dC dI dA κ B g H0 H locs) (ht : t.heap = H) (hw : s.WarmedH t.vm) : he_S dC dI dA κ B g t := by
  refine ⟨va_K.moved hw.alike hK, hp_N.warm hw hN, hW, ?_⟩
  rw [ht]
  exact hJ.1
abbrev he_Pre (dC : Nat → ClassId) (dI : Nat → Nat → Nat) (dA : Nat → ClassId) (κ : Nat → Nat) (B : Nat) (g : Nat → Nat → Int) (av : List Value) : Array Value → State → Prop := va_Pc av (he_S dC dI dA κ B g)
abbrev he_Qi (dC : Nat → ClassId) (dI : Nat → Nat → Nat) (dA : Nat → ClassId) (κ : Nat → Nat) (B : Nat) (post : Int32 → (Nat → Nat → Int) → Prop) : Array Value → State → Outcome → State → Prop := va_Qi post (fun u t => he_S dC dI dA κ B u t) (hp_A B)
abbrev he_Qv (dC : Nat → ClassId) (dI : Nat → Nat → Nat) (dA : Nat → ClassId) (κ : Nat → Nat) (B : Nat) (post : (Nat → Nat → Int) → Prop) : Array Value → State → Outcome → State → Prop := va_Qv post (fun u t => he_S dC dI dA κ B u t) (hp_A B)
abbrev he_Qr (dC : Nat → ClassId) (dI : Nat → Nat → Nat) (dA : Nat → ClassId) (κ : Nat → Nat) (B : Nat) (kd : Nat) (post : (Nat → Nat → Int) → Prop) : Array Value → State → Outcome → State → Prop := va_Qr post (fun u a t => he_S dC dI dA κ B u t ∧ κ a = kd) (hp_A B)
theorem he_blind {dC : Nat → ClassId} {dI : Nat → Nat → Nat} {dA : Nat → ClassId} {κ : Nat → Nat} {B : Nat} {g : Nat → Nat → Int} {av : List Value} : FrameBlind (he_Pre dC dI dA κ B g av) := by
  intro a U f mk h
  obtain ⟨h0, h1, h2, h3, h4⟩ := h
  exact ⟨h0, va_K.moved (u := U) (U := U.calling f mk a) (Vm.Alike.refl U.vm) h1, hp_N.same rfl h2, h3, h4⟩
theorem he_preS {dC : Nat → ClassId} {dI : Nat → Nat → Nat} {dA : Nat → ClassId} {κ : Nat → Nat} {B : Nat} {g : Nat → Nat → Int} {H0 H : Heap} {locs : List Loc} {s : State} (As : List Value) (hK : va_K (dC, dI) vwCl (hp_ty dA) s) (hN : hp_N s) (hW : hp_W κ B) (hJ : he_J dC dI dA κ B g H0 H locs) : PreS s H (he_Pre dC dI dA κ B g As) As :=
  ⟨he_blind, fun _ hU hw => ⟨rfl, he_S.of hK hN hW hJ hU hw⟩⟩
theorem he_preV {dC : Nat → ClassId} {dI : Nat → Nat → Nat} {dA : Nat → ClassId} {κ : Nat → Nat} {B : Nat} {g : Nat → Nat → Int} {H0 H : Heap} {locs : List Loc} {s : State} {b kd ci N : Nat} {q : vw_C} (As : List Value) (hK : va_K (dC, dI) vwCl (hp_ty dA) s) (hN : hp_N s) (hW : hp_W κ B) (hJ : he_J dC dI dA κ B g H0 H locs) (hκ : κ b = kd) (ht : hk_t kd = (1, ci, N)) (hc : vwCl[ci]? = some q) : PreV s H q.1 b (he_Pre dC dI dA κ B g (.ref b :: As)) As := by
  refine ⟨he_blind, ?_, fun _ hU hw => ⟨rfl, he_S.of hK hN hW hJ hU hw⟩⟩
  obtain ⟨⟨F, hM, -⟩, -⟩ := hJ
  have h := hM b
  rw [hκ, ht] at h
  obtain ⟨cell, h1, h2, h3, -⟩ := (show t_OB b (dC ci) N (dI ci) H (F b) from h)
  exact ⟨cell, h1, by rw [h3]; rfl, by rw [h2]; exact (hK.1 ci q hc).2.1⟩
section HEW
variable {p : Program} {l : Launch} {e : Env} {R : Room} {s : State} {m : MethodId} {args : Array Value} {below : List Frame} {meth : Method} {c : Code} {H : Heap} {locs : List Loc} {cells slots : Nat} {Q : State → Prop}
variable {cc : ByteArray} {pc : Nat} {ls : Array Slot} {rest st0 : List Value}
variable {dC : Nat → ClassId} {dI : Nat → Nat → Nat} {dA : Nat → ClassId} {κ : Nat → Nat} {B : Nat} {g : Nat → Nat → Int} {H0 : Heap} {a : Nat}
-- fields
theorem he_getv (hx : p.tables.exec = Jvm.exec) (hb : c.code = cc) {own ref C : String} {T : u_T} {N ci index kd : Nat} {Ts : List Cond} (hts : ∀ w ∈ Ts, w.before args s = true) (hin : ∀ w ∈ u_ws C T N, w ∈ Ts) (hown : s.vm.findClass own = some m.cls) (hK : va_K (dC, dI) vwCl (hp_ty dA) s) (hJ : he_J dC dI dA κ B g H0 H locs) (hκ : κ a = kd) (ht : hk_t kd = (1, ci, N)) (hc : vwCl[ci]? = some (C, T, N)) (k : Nat) (hk : k < N) (hlink : (Cond.fieldLink own index ref (T k).2.1 (T k).2.2.1).before args s = true) (hsame : ∀ x, s.fieldFound? (T k).1 (T k).2.1 (T k).2.2.1 = some x → s.fieldFound? ref (T k).2.1 (T k).2.2.1 = some x) (hdg : decode cc pc = .ok (.getfield index, 3))
    (kk : ∀ v : Value, he_ok κ (g kd k) (he_s kd k) v → W p l e R s m args below meth c H locs cells slots Q (F0 m (pc + 3) ls (v :: rest))) : W p l e R s m args below meth c H locs cells slots Q (F0 m (pc) ls (.ref a :: rest)) := by
  obtain ⟨⟨F, hM, hO⟩, -⟩ := hJ
  have h := hM a
  have ho := hO a k
  rw [hκ, ht] at h
  rw [hκ, ht] at ho
  obtain ⟨cell, q1, q2, q3, q4⟩ := (show t_OB a (dC ci) N (dI ci) H (F a) from h)
  obtain ⟨hS, hfc, kC, hkC, hkind⟩ := hK.1 ci _ hc
  obtain ⟨cf, kf, fi, f, hi, hsl⟩ := hS k hk
  refine W.getf hx hb hown hlink (hsame _ hi) (u_facts hfc hkC (u_lays hts hin hk) hi).1 q1 (by rw [q3]; exact fun h => by cases h) (v := F a k) ?_ rfl rfl hdg (kk _ (ho hk))
  rw [hsl, q4 k hk]
theorem he_geti (hx : p.tables.exec = Jvm.exec) (hb : c.code = cc) {own ref C : String} {T : u_T} {N ci index kd : Nat} {Ts : List Cond} (hts : ∀ w ∈ Ts, w.before args s = true) (hin : ∀ w ∈ u_ws C T N, w ∈ Ts) (hown : s.vm.findClass own = some m.cls) (hK : va_K (dC, dI) vwCl (hp_ty dA) s) (hJ : he_J dC dI dA κ B g H0 H locs) (hκ : κ a = kd) (ht : hk_t kd = (1, ci, N)) (hc : vwCl[ci]? = some (C, T, N)) (k : Nat) (hk : k < N) (hlink : (Cond.fieldLink own index ref (T k).2.1 (T k).2.2.1).before args s = true) (hsame : ∀ x, s.fieldFound? (T k).1 (T k).2.1 (T k).2.2.1 = some x → s.fieldFound? ref (T k).2.1 (T k).2.2.1 = some x) {sp : Nat × Nat} (hs : he_s kd k = sp) (hn : he_n sp = true) (hdg : decode cc pc = .ok (.getfield index, 3))
    (kk : ∀ x : Int32, he_i (g kd k) sp x.toInt → W p l e R s m args below meth c H locs cells slots Q (F0 m (pc + 3) ls (.int x :: rest))) : W p l e R s m args below meth c H locs cells slots Q (F0 m (pc) ls (.ref a :: rest)) := by
  refine he_getv hx hb hts hin hown hK hJ hκ ht hc k hk hlink hsame hdg (fun v hv => ?_)
  rw [hs] at hv
  obtain ⟨x, rfl, h⟩ := he_ok_i hn hv
  exact kk x h
theorem he_getr (hx : p.tables.exec = Jvm.exec) (hb : c.code = cc) {own ref C : String} {T : u_T} {N ci index kd : Nat} {Ts : List Cond} (hts : ∀ w ∈ Ts, w.before args s = true) (hin : ∀ w ∈ u_ws C T N, w ∈ Ts) (hown : s.vm.findClass own = some m.cls) (hK : va_K (dC, dI) vwCl (hp_ty dA) s) (hJ : he_J dC dI dA κ B g H0 H locs) (hκ : κ a = kd) (ht : hk_t kd = (1, ci, N)) (hc : vwCl[ci]? = some (C, T, N)) (k : Nat) (hk : k < N) (hlink : (Cond.fieldLink own index ref (T k).2.1 (T k).2.2.1).before args s = true) (hsame : ∀ x, s.fieldFound? (T k).1 (T k).2.1 (T k).2.2.1 = some x → s.fieldFound? ref (T k).2.1 (T k).2.2.1 = some x) {k2 : Nat} (hs : he_s kd k = (4, k2)) (hdg : decode cc pc = .ok (.getfield index, 3))
    (kk : ∀ b : Nat, κ b = k2 → W p l e R s m args below meth c H locs cells slots Q (F0 m (pc + 3) ls (.ref b :: rest))) : W p l e R s m args below meth c H locs cells slots Q (F0 m (pc) ls (.ref a :: rest)) := by
  refine he_getv hx hb hts hin hown hK hJ hκ ht hc k hk hlink hsame hdg (fun v hv => ?_)
  rw [hs] at hv
  obtain ⟨b, rfl, h⟩ := (show ∃ b : Nat, v = .ref b ∧ κ b = k2 from hv)
  exact kk b h
theorem he_putv (hx : p.tables.exec = Jvm.exec) (hb : c.code = cc) {own ref C : String} {T : u_T} {N ci index kd : Nat} {Ts : List Cond} (hts : ∀ w ∈ Ts, w.before args s = true) (hin : ∀ w ∈ u_ws C T N, w ∈ Ts) (hown : s.vm.findClass own = some m.cls) (hK : va_K (dC, dI) vwCl (hp_ty dA) s) (hJ : he_J dC dI dA κ B g H0 H locs) (hκ : κ a = kd) (ht : hk_t kd = (1, ci, N)) (hc : vwCl[ci]? = some (C, T, N)) (k : Nat) (hk : k < N) (hlink : (Cond.fieldLink own index ref (T k).2.1 (T k).2.2.1).before args s = true) (hsame : ∀ x, s.fieldFound? (T k).1 (T k).2.1 (T k).2.2.1 = some x → s.fieldFound? ref (T k).2.1 (T k).2.2.1 = some x) (ty0 : Nat → FieldType) (hty : ∀ k, k < N → parseFieldDescriptor (T k).2.2.1 = some (ty0 k)) (hnm : ∀ a, a < N → ∀ b, b < N → a ≠ b → (T a).2.1 ≠ (T b).2.1) {v : Value} (hn : narrow (ty0 k) v = v) (hfit : fits (ty0 k) v = true) (h0 : kd ≠ 0) (hW : hp_W κ B) (hfin : (T k).2.2.2 = false) (hdg : decode cc pc = .ok (.putfield index, 3))
    (kk : ∀ (F : hp_F) (H1 : Heap) (locs1 : List Loc), hp_M dC dI dA κ (hp_u F a k v) H1 → he_O κ g F → va_S (hp_A B) H0 H1 locs1 → W p l e R s m args below meth c H1 locs1 cells slots Q (F0 m (pc + 3) ls (rest))) : W p l e R s m args below meth c H locs cells slots Q (F0 m (pc) ls (v :: .ref a :: rest)) := by
  have hap := va_apart (own := own) (ci := ci) hts hin ty0 hty hnm hK hc
  obtain ⟨⟨F, hM, hO⟩, hS0⟩ := hJ
  have h := hM a
  rw [hκ, ht] at h
  obtain ⟨cell, q1, q2, q3, q4⟩ := (show t_OB a (dC ci) N (dI ci) H (F a) from h)
  obtain ⟨hS, hfc, kC, hkC, hkind⟩ := hK.1 ci _ hc
  obtain ⟨cf, kf, fi, f, hi, hsl⟩ := hS k hk
  have hlay := hts _ (hin _ (u_in_lay hk))
  unfold u_lay at hlay
  rw [if_neg (by rw [hfin]; decide)] at hlay
  have hst := (u_facts hfc hkC (u_lays hts hin hk) hi).1
  have h6 := u_store hfc hkC hkind hlay hi (hty k hk) hn hfit
  refine W.putK hx hb (f := f) ⟨hown, hlink, ⟨_, _, _, hsame _ hi⟩, hst⟩ (by rw [q2]; exact h6) q1 q3 (by rw [hsl]; exact k2_hasslot (q4 k hk)) rfl rfl hdg fun H' e1 e2 e3 => ?_
  rw [hsl] at e1 ⊢
  refine kk F H' _ (hp_set hM ?_ e3) hO (hS0.put e2 e3 (hW.1 a (by rw [hκ]; exact h0)))
  rw [hκ, ht]
  exact ⟨_, e1, q2, q3, t_set q4 hap hk v⟩
theorem he_put (hx : p.tables.exec = Jvm.exec) (hb : c.code = cc) {own ref C : String} {T : u_T} {N ci index kd : Nat} {Ts : List Cond} (hts : ∀ w ∈ Ts, w.before args s = true) (hin : ∀ w ∈ u_ws C T N, w ∈ Ts) (hown : s.vm.findClass own = some m.cls) (hK : va_K (dC, dI) vwCl (hp_ty dA) s) (hJ : he_J dC dI dA κ B g H0 H locs) (hκ : κ a = kd) (ht : hk_t kd = (1, ci, N)) (hc : vwCl[ci]? = some (C, T, N)) (k : Nat) (hk : k < N) (hlink : (Cond.fieldLink own index ref (T k).2.1 (T k).2.2.1).before args s = true) (hsame : ∀ x, s.fieldFound? (T k).1 (T k).2.1 (T k).2.2.1 = some x → s.fieldFound? ref (T k).2.1 (T k).2.2.1 = some x) (ty0 : Nat → FieldType) (hty : ∀ k, k < N → parseFieldDescriptor (T k).2.2.1 = some (ty0 k)) (hnm : ∀ a, a < N → ∀ b, b < N → a ≠ b → (T a).2.1 ≠ (T b).2.1) {v : Value} (hn : narrow (ty0 k) v = v) (hfit : fits (ty0 k) v = true) (h0 : kd ≠ 0) (hW : hp_W κ B) (hfin : (T k).2.2.2 = false) (hv : he_ok κ (g kd k) (he_s kd k) v) (hdg : decode cc pc = .ok (.putfield index, 3))
    (kk : ∀ (H1 : Heap) (locs1 : List Loc), he_J dC dI dA κ B g H0 H1 locs1 → W p l e R s m args below meth c H1 locs1 cells slots Q (F0 m (pc + 3) ls (rest))) : W p l e R s m args below meth c H locs cells slots Q (F0 m (pc) ls (v :: .ref a :: rest)) := he_putv hx hb hts hin hown hK hJ hκ ht hc k hk hlink hsame ty0 hty hnm hn hfit h0 hW hfin hdg (fun F H1 locs1 hM hO hS => kk H1 locs1 ⟨⟨_, hM, he_setO hO (by rw [hκ]; exact hv)⟩, hS⟩)
-- arrays
theorem he_ialv (hx : p.tables.exec = Jvm.exec) (hb : c.code = cc) {kd n : Nat} (hK : va_K (dC, dI) vwCl (hp_ty dA) s) (hJ : he_J dC dI dA κ B g H0 H locs) (hκ : κ a = kd) (ht : hk_t kd = (2, 0, n)) {i : Int32} (h1 : 0 ≤ i.toInt) (h2 : i.toInt < (n : Int)) (hdg : decode cc pc = .ok (.iaload, 1))
    (kk : ∀ v : Value, he_ok κ (g kd i.toInt.toNat) (he_s kd i.toInt.toNat) v → W p l e R s m args below meth c H locs cells slots Q (F0 m (pc + 1) ls (v :: rest))) : W p l e R s m args below meth c H locs cells slots Q (F0 m (pc) ls (.int i :: .ref a :: rest)) := by
  obtain ⟨⟨F, hM, hO⟩, -⟩ := hJ
  have h := hM a
  have ho := hO a i.toInt.toNat
  rw [hκ, ht] at h
  rw [hκ, ht] at ho
  have hin := hi_in h1 h2
  have hlt : i.toNatClampNeg < n := Nat.not_le.mp fun q => hin (Or.inr q)
  exact W.iald (v := F a i.toInt.toNat) hx hb h ((hK.2 0 _ rfl).1 n (F a)) (fun q => by cases q) (by show ¬ (i < 0 ∨ (arrV _ _ _).slots.size ≤ _); rw [arrV_size]; exact hin) (arrV_read _ _ hlt) rfl rfl hdg (kk _ (ho hlt))
theorem he_balv (hx : p.tables.exec = Jvm.exec) (hb : c.code = cc) {kd n : Nat} (hK : va_K (dC, dI) vwCl (hp_ty dA) s) (hJ : he_J dC dI dA κ B g H0 H locs) (hκ : κ a = kd) (ht : hk_t kd = (2, 1, n)) {i : Int32} (h1 : 0 ≤ i.toInt) (h2 : i.toInt < (n : Int)) (hdg : decode cc pc = .ok (.baload, 1))
    (kk : ∀ v : Value, he_ok κ (g kd i.toInt.toNat) (he_s kd i.toInt.toNat) v → W p l e R s m args below meth c H locs cells slots Q (F0 m (pc + 1) ls (v :: rest))) : W p l e R s m args below meth c H locs cells slots Q (F0 m (pc) ls (.int i :: .ref a :: rest)) := by
  obtain ⟨⟨F, hM, hO⟩, -⟩ := hJ
  have h := hM a
  have ho := hO a i.toInt.toNat
  rw [hκ, ht] at h
  rw [hκ, ht] at ho
  have hin := hi_in h1 h2
  have hlt : i.toNatClampNeg < n := Nat.not_le.mp fun q => hin (Or.inr q)
  exact W.bald (v := F a i.toInt.toNat) hx hb h ((hK.2 1 _ rfl).1 n (F a)) (fun q => by cases q) (by show ¬ (i < 0 ∨ (arrV _ _ _).slots.size ≤ _); rw [arrV_size]; exact hin) (arrV_read _ _ hlt) rfl rfl hdg (kk _ (ho hlt))
theorem he_zalv (hx : p.tables.exec = Jvm.exec) (hb : c.code = cc) {kd n : Nat} (hK : va_K (dC, dI) vwCl (hp_ty dA) s) (hJ : he_J dC dI dA κ B g H0 H locs) (hκ : κ a = kd) (ht : hk_t kd = (2, 2, n)) {i : Int32} (h1 : 0 ≤ i.toInt) (h2 : i.toInt < (n : Int)) (hdg : decode cc pc = .ok (.baload, 1))
    (kk : ∀ v : Value, he_ok κ (g kd i.toInt.toNat) (he_s kd i.toInt.toNat) v → W p l e R s m args below meth c H locs cells slots Q (F0 m (pc + 1) ls (v :: rest))) : W p l e R s m args below meth c H locs cells slots Q (F0 m (pc) ls (.int i :: .ref a :: rest)) := by
  obtain ⟨⟨F, hM, hO⟩, -⟩ := hJ
  have h := hM a
  have ho := hO a i.toInt.toNat
  rw [hκ, ht] at h
  rw [hκ, ht] at ho
  have hin := hi_in h1 h2
  have hlt : i.toNatClampNeg < n := Nat.not_le.mp fun q => hin (Or.inr q)
  exact W.zald (v := F a i.toInt.toNat) hx hb h ((hK.2 2 _ rfl).1 n (F a)) (fun q => by cases q) (by show ¬ (i < 0 ∨ (arrV _ _ _).slots.size ≤ _); rw [arrV_size]; exact hin) (arrV_read _ _ hlt) rfl rfl hdg (kk _ (ho hlt))
theorem he_aalv3 (hx : p.tables.exec = Jvm.exec) (hb : c.code = cc) {kd n : Nat} (hK : va_K (dC, dI) vwCl (hp_ty dA) s) (hJ : he_J dC dI dA κ B g H0 H locs) (hκ : κ a = kd) (ht : hk_t kd = (2, 3, n)) {i : Int32} (h1 : 0 ≤ i.toInt) (h2 : i.toInt < (n : Int)) (hdg : decode cc pc = .ok (.aaload, 1))
    (kk : ∀ v : Value, he_ok κ (g kd i.toInt.toNat) (he_s kd i.toInt.toNat) v → W p l e R s m args below meth c H locs cells slots Q (F0 m (pc + 1) ls (v :: rest))) : W p l e R s m args below meth c H locs cells slots Q (F0 m (pc) ls (.int i :: .ref a :: rest)) := by
  obtain ⟨⟨F, hM, hO⟩, -⟩ := hJ
  have h := hM a
  have ho := hO a i.toInt.toNat
  rw [hκ, ht] at h
  rw [hκ, ht] at ho
  have hin := hi_in h1 h2
  have hlt : i.toNatClampNeg < n := Nat.not_le.mp fun q => hin (Or.inr q)
  exact W.aald (v := F a i.toInt.toNat) hx hb h ((hK.2 3 _ rfl).1 n (F a)) rfl (fun q => by cases q) (by show ¬ (i < 0 ∨ (arrV _ _ _).slots.size ≤ _); rw [arrV_size]; exact hin) (arrV_read _ _ hlt) rfl rfl hdg (kk _ (ho hlt))
theorem he_aalv4 (hx : p.tables.exec = Jvm.exec) (hb : c.code = cc) {kd n : Nat} (hK : va_K (dC, dI) vwCl (hp_ty dA) s) (hJ : he_J dC dI dA κ B g H0 H locs) (hκ : κ a = kd) (ht : hk_t kd = (2, 4, n)) {i : Int32} (h1 : 0 ≤ i.toInt) (h2 : i.toInt < (n : Int)) (hdg : decode cc pc = .ok (.aaload, 1))
    (kk : ∀ v : Value, he_ok κ (g kd i.toInt.toNat) (he_s kd i.toInt.toNat) v → W p l e R s m args below meth c H locs cells slots Q (F0 m (pc + 1) ls (v :: rest))) : W p l e R s m args below meth c H locs cells slots Q (F0 m (pc) ls (.int i :: .ref a :: rest)) := by
  obtain ⟨⟨F, hM, hO⟩, -⟩ := hJ
  have h := hM a
  have ho := hO a i.toInt.toNat
  rw [hκ, ht] at h
  rw [hκ, ht] at ho
  have hin := hi_in h1 h2
  have hlt : i.toNatClampNeg < n := Nat.not_le.mp fun q => hin (Or.inr q)
  exact W.aald (v := F a i.toInt.toNat) hx hb h ((hK.2 4 _ rfl).1 n (F a)) rfl (fun q => by cases q) (by show ¬ (i < 0 ∨ (arrV _ _ _).slots.size ≤ _); rw [arrV_size]; exact hin) (arrV_read _ _ hlt) rfl rfl hdg (kk _ (ho hlt))
theorem he_iald (hx : p.tables.exec = Jvm.exec) (hb : c.code = cc) {kd n : Nat} (hK : va_K (dC, dI) vwCl (hp_ty dA) s) (hJ : he_J dC dI dA κ B g H0 H locs) (hκ : κ a = kd) (ht : hk_t kd = (2, 0, n)) {i : Int32} (h1 : 0 ≤ i.toInt) (h2 : i.toInt < (n : Int)) {sp : Nat × Nat} (hs : he_s kd i.toInt.toNat = sp) (hn : he_n sp = true) (hdg : decode cc pc = .ok (.iaload, 1))
    (kk : ∀ x : Int32, he_i (g kd i.toInt.toNat) sp x.toInt → W p l e R s m args below meth c H locs cells slots Q (F0 m (pc + 1) ls (.int x :: rest))) : W p l e R s m args below meth c H locs cells slots Q (F0 m (pc) ls (.int i :: .ref a :: rest)) := by
  refine he_ialv hx hb hK hJ hκ ht h1 h2 hdg (fun v hv => ?_)
  rw [hs] at hv
  obtain ⟨x, rfl, h⟩ := he_ok_i hn hv
  exact kk x h
theorem he_bald (hx : p.tables.exec = Jvm.exec) (hb : c.code = cc) {kd n : Nat} (hK : va_K (dC, dI) vwCl (hp_ty dA) s) (hJ : he_J dC dI dA κ B g H0 H locs) (hκ : κ a = kd) (ht : hk_t kd = (2, 1, n)) {i : Int32} (h1 : 0 ≤ i.toInt) (h2 : i.toInt < (n : Int)) {sp : Nat × Nat} (hs : he_s kd i.toInt.toNat = sp) (hn : he_n sp = true) (hdg : decode cc pc = .ok (.baload, 1))
    (kk : ∀ x : Int32, he_i (g kd i.toInt.toNat) sp x.toInt → W p l e R s m args below meth c H locs cells slots Q (F0 m (pc + 1) ls (.int x :: rest))) : W p l e R s m args below meth c H locs cells slots Q (F0 m (pc) ls (.int i :: .ref a :: rest)) := by
  refine he_balv hx hb hK hJ hκ ht h1 h2 hdg (fun v hv => ?_)
  rw [hs] at hv
  obtain ⟨x, rfl, h⟩ := he_ok_i hn hv
  exact kk x h
theorem he_zald (hx : p.tables.exec = Jvm.exec) (hb : c.code = cc) {kd n : Nat} (hK : va_K (dC, dI) vwCl (hp_ty dA) s) (hJ : he_J dC dI dA κ B g H0 H locs) (hκ : κ a = kd) (ht : hk_t kd = (2, 2, n)) {i : Int32} (h1 : 0 ≤ i.toInt) (h2 : i.toInt < (n : Int)) {sp : Nat × Nat} (hs : he_s kd i.toInt.toNat = sp) (hn : he_n sp = true) (hdg : decode cc pc = .ok (.baload, 1))
    (kk : ∀ x : Int32, he_i (g kd i.toInt.toNat) sp x.toInt → W p l e R s m args below meth c H locs cells slots Q (F0 m (pc + 1) ls (.int x :: rest))) : W p l e R s m args below meth c H locs cells slots Q (F0 m (pc) ls (.int i :: .ref a :: rest)) := by
  refine he_zalv hx hb hK hJ hκ ht h1 h2 hdg (fun v hv => ?_)
  rw [hs] at hv
  obtain ⟨x, rfl, h⟩ := he_ok_i hn hv
  exact kk x h
theorem he_aald3 (hx : p.tables.exec = Jvm.exec) (hb : c.code = cc) {kd n : Nat} (hK : va_K (dC, dI) vwCl (hp_ty dA) s) (hJ : he_J dC dI dA κ B g H0 H locs) (hκ : κ a = kd) (ht : hk_t kd = (2, 3, n)) {i : Int32} (h1 : 0 ≤ i.toInt) (h2 : i.toInt < (n : Int)) {k2 : Nat} (hs : he_s kd i.toInt.toNat = (4, k2)) (hdg : decode cc pc = .ok (.aaload, 1))
    (kk : ∀ b : Nat, κ b = k2 → W p l e R s m args below meth c H locs cells slots Q (F0 m (pc + 1) ls (.ref b :: rest))) : W p l e R s m args below meth c H locs cells slots Q (F0 m (pc) ls (.int i :: .ref a :: rest)) := by
  refine he_aalv3 hx hb hK hJ hκ ht h1 h2 hdg (fun v hv => ?_)
  rw [hs] at hv
  obtain ⟨b, rfl, h⟩ := (show ∃ b : Nat, v = .ref b ∧ κ b = k2 from hv)
  exact kk b h
theorem he_iasv (hx : p.tables.exec = Jvm.exec) (hb : c.code = cc) {kd n : Nat} (hK : va_K (dC, dI) vwCl (hp_ty dA) s) (hJ : he_J dC dI dA κ B g H0 H locs) (hκ : κ a = kd) (ht : hk_t kd = (2, 0, n)) {i : Int32} (h1 : 0 ≤ i.toInt) (h2 : i.toInt < (n : Int)) {x : Int32} (h0 : kd ≠ 0) (hW : hp_W κ B) (hdg : decode cc pc = .ok (.iastore, 1))
    (kk : ∀ (F : hp_F) (H1 : Heap) (locs1 : List Loc), hp_M dC dI dA κ (hp_u F a i.toInt.toNat (.int x)) H1 → he_O κ g F → va_S (hp_A B) H0 H1 locs1 → W p l e R s m args below meth c H1 locs1 cells slots Q (F0 m (pc + 1) ls (rest))) : W p l e R s m args below meth c H locs cells slots Q (F0 m (pc) ls (.int x :: .int i :: .ref a :: rest)) := by
  obtain ⟨⟨F, hM, hO⟩, hS0⟩ := hJ
  have h := hM a
  rw [hκ, ht] at h
  have hin := hi_in h1 h2
  refine W.iast hx hb h ((hK.2 0 _ rfl).1 n (F a)) (fun q => by cases q) (by show ¬ (i < 0 ∨ (arrV _ _ _).slots.size ≤ _); rw [arrV_size]; exact hin) rfl rfl hdg fun H' e1 e2 e3 => ?_
  refine kk F H' _ (hp_set hM ?_ e3) hO (hS0.put e2 e3 (hW.1 a (by rw [hκ]; exact h0)))
  rw [hκ, ht]
  exact e1.trans (congrArg some (arrV_store _ _ _ _ _))
theorem he_basv (hx : p.tables.exec = Jvm.exec) (hb : c.code = cc) {kd n : Nat} (hK : va_K (dC, dI) vwCl (hp_ty dA) s) (hJ : he_J dC dI dA κ B g H0 H locs) (hκ : κ a = kd) (ht : hk_t kd = (2, 1, n)) {i : Int32} (h1 : 0 ≤ i.toInt) (h2 : i.toInt < (n : Int)) {x : Int32} (h0 : kd ≠ 0) (hW : hp_W κ B) (hdg : decode cc pc = .ok (.bastore, 1))
    (kk : ∀ (F : hp_F) (H1 : Heap) (locs1 : List Loc), hp_M dC dI dA κ (hp_u F a i.toInt.toNat (narrow .byte (.int x))) H1 → he_O κ g F → va_S (hp_A B) H0 H1 locs1 → W p l e R s m args below meth c H1 locs1 cells slots Q (F0 m (pc + 1) ls (rest))) : W p l e R s m args below meth c H locs cells slots Q (F0 m (pc) ls (.int x :: .int i :: .ref a :: rest)) := by
  obtain ⟨⟨F, hM, hO⟩, hS0⟩ := hJ
  have h := hM a
  rw [hκ, ht] at h
  have hin := hi_in h1 h2
  refine W.bast hx hb h ((hK.2 1 _ rfl).1 n (F a)) (fun q => by cases q) (by show ¬ (i < 0 ∨ (arrV _ _ _).slots.size ≤ _); rw [arrV_size]; exact hin) rfl rfl hdg fun H' e1 e2 e3 => ?_
  refine kk F H' _ (hp_set hM ?_ e3) hO (hS0.put e2 e3 (hW.1 a (by rw [hκ]; exact h0)))
  rw [hκ, ht]
  exact e1.trans (congrArg some (arrV_store _ _ _ _ _))
theorem he_zasv (hx : p.tables.exec = Jvm.exec) (hb : c.code = cc) {kd n : Nat} (hK : va_K (dC, dI) vwCl (hp_ty dA) s) (hJ : he_J dC dI dA κ B g H0 H locs) (hκ : κ a = kd) (ht : hk_t kd = (2, 2, n)) {i : Int32} (h1 : 0 ≤ i.toInt) (h2 : i.toInt < (n : Int)) {x : Int32} (h0 : kd ≠ 0) (hW : hp_W κ B) (hdg : decode cc pc = .ok (.bastore, 1))
    (kk : ∀ (F : hp_F) (H1 : Heap) (locs1 : List Loc), hp_M dC dI dA κ (hp_u F a i.toInt.toNat (narrow .boolean (.int x))) H1 → he_O κ g F → va_S (hp_A B) H0 H1 locs1 → W p l e R s m args below meth c H1 locs1 cells slots Q (F0 m (pc + 1) ls (rest))) : W p l e R s m args below meth c H locs cells slots Q (F0 m (pc) ls (.int x :: .int i :: .ref a :: rest)) := by
  obtain ⟨⟨F, hM, hO⟩, hS0⟩ := hJ
  have h := hM a
  rw [hκ, ht] at h
  have hin := hi_in h1 h2
  refine W.zast hx hb h ((hK.2 2 _ rfl).1 n (F a)) (fun q => by cases q) (by show ¬ (i < 0 ∨ (arrV _ _ _).slots.size ≤ _); rw [arrV_size]; exact hin) rfl rfl hdg fun H' e1 e2 e3 => ?_
  refine kk F H' _ (hp_set hM ?_ e3) hO (hS0.put e2 e3 (hW.1 a (by rw [hκ]; exact h0)))
  rw [hκ, ht]
  exact e1.trans (congrArg some (arrV_store _ _ _ _ _))
theorem he_iast (hx : p.tables.exec = Jvm.exec) (hb : c.code = cc) {kd n : Nat} (hK : va_K (dC, dI) vwCl (hp_ty dA) s) (hJ : he_J dC dI dA κ B g H0 H locs) (hκ : κ a = kd) (ht : hk_t kd = (2, 0, n)) {i : Int32} (h1 : 0 ≤ i.toInt) (h2 : i.toInt < (n : Int)) {x : Int32} (h0 : kd ≠ 0) (hW : hp_W κ B) {sp : Nat × Nat} (hs : he_s kd i.toInt.toNat = sp) (hn : he_n sp = true) (hv : he_i (g kd i.toInt.toNat) sp x.toInt) (hdg : decode cc pc = .ok (.iastore, 1))
    (kk : ∀ (H1 : Heap) (locs1 : List Loc), he_J dC dI dA κ B g H0 H1 locs1 → W p l e R s m args below meth c H1 locs1 cells slots Q (F0 m (pc + 1) ls (rest))) : W p l e R s m args below meth c H locs cells slots Q (F0 m (pc) ls (.int x :: .int i :: .ref a :: rest)) := he_iasv hx hb hK hJ hκ ht h1 h2 h0 hW hdg (fun F H1 locs1 hM hO hS => kk H1 locs1 ⟨⟨_, hM, he_setO hO (by rw [hκ, hs]; exact he_i_ok hn hv)⟩, hS⟩)
theorem he_bast (hx : p.tables.exec = Jvm.exec) (hb : c.code = cc) {kd n : Nat} (hK : va_K (dC, dI) vwCl (hp_ty dA) s) (hJ : he_J dC dI dA κ B g H0 H locs) (hκ : κ a = kd) (ht : hk_t kd = (2, 1, n)) {i : Int32} (h1 : 0 ≤ i.toInt) (h2 : i.toInt < (n : Int)) {x : Int32} (h0 : kd ≠ 0) (hW : hp_W κ B) (hs : he_s kd i.toInt.toNat = (5, 0)) (hdg : decode cc pc = .ok (.bastore, 1))
    (kk : ∀ (H1 : Heap) (locs1 : List Loc), he_J dC dI dA κ B g H0 H1 locs1 → W p l e R s m args below meth c H1 locs1 cells slots Q (F0 m (pc + 1) ls (rest))) : W p l e R s m args below meth c H locs cells slots Q (F0 m (pc) ls (.int x :: .int i :: .ref a :: rest)) := he_basv hx hb hK hJ hκ ht h1 h2 h0 hW hdg (fun F H1 locs1 hM hO hS => kk H1 locs1 ⟨⟨_, hM, he_setO hO (by rw [hκ, hs]; exact ⟨x.toInt8.toInt32, rfl, (lg_i2b_range x).1, Int.le_of_lt_add_one (lg_i2b_range x).2⟩)⟩, hS⟩)
theorem he_alen (hx : p.tables.exec = Jvm.exec) (hb : c.code = cc) {kd ty n : Nat} {q : ClassId × FieldType} (hK : va_K (dC, dI) vwCl (hp_ty dA) s) (hJ : he_J dC dI dA κ B g H0 H locs) (hκ : κ a = kd) (ht : hk_t kd = (2, ty, n)) (hq : (hp_ty dA)[ty]? = some q) (hqa : q.1 = dA ty) (hn : n < 2147483648) (hdg : decode cc pc = .ok (.arraylength, 1))
    (kk : ∀ x : Int32, x.toInt = (n : Int) → W p l e R s m args below meth c H locs cells slots Q (F0 m (pc + 1) ls (.int x :: rest))) : W p l e R s m args below meth c H locs cells slots Q (F0 m (pc) ls (.ref a :: rest)) := by
  obtain ⟨⟨F, hM, hO⟩, -⟩ := hJ
  have h := hM a
  rw [hκ, ht] at h
  have h9 := (hK.2 ty q hq).1
  rw [hqa] at h9
  exact W.alen (n := Int32.ofNat n) hx hb h (h9 n (F a)) (by rw [show (arrV (dA ty) n (F a)).slots.size = n from arrV_size _ _ _] <;> rfl) rfl rfl hdg (kk _ (nI_toInt (n := n) (by omega)))
-- calls and returns
theorem he_calli {post : Int32 → (Nat → Nat → Int) → Prop} {av : Array Value} (hr : va_Run p l e R s m args below meth c H locs cells slots 0 0 (F0 m pc ls st0) rest (he_Qi dC dI dA κ B post av) (hp_A B)) (hJ : he_J dC dI dA κ B g H0 H locs)
    (kk : ∀ (r : Int32) (g' : Nat → Nat → Int) (H1 : Heap) (locs1 : List Loc), post r g' → he_J dC dI dA κ B g' H0 H1 locs1 → W p l e R s m args below meth c H1 locs1 cells slots Q (F0 m (pc + 3) ls (.int r :: rest))) : W p l e R s m args below meth c H locs cells slots Q (F0 m (pc) ls (st0)) := va_calli hr hJ.2 (fun _ _ h => h) (fun _ h => h) (fun r u t H1 locs1 ht hvm hp hb' _ _ hS => kk r u H1 locs1 hp ⟨by obtain ⟨-, -, -, h⟩ := hb'; rw [ht] at h; exact h, hS⟩)
theorem he_callv {post : (Nat → Nat → Int) → Prop} {av : Array Value} (hr : va_Run p l e R s m args below meth c H locs cells slots 0 0 (F0 m pc ls st0) rest (he_Qv dC dI dA κ B post av) (hp_A B)) (hJ : he_J dC dI dA κ B g H0 H locs)
    (kk : ∀ (g' : Nat → Nat → Int) (H1 : Heap) (locs1 : List Loc), post g' → he_J dC dI dA κ B g' H0 H1 locs1 → W p l e R s m args below meth c H1 locs1 cells slots Q (F0 m (pc + 3) ls (rest))) : W p l e R s m args below meth c H locs cells slots Q (F0 m (pc) ls (st0)) := va_callv hr hJ.2 (fun _ _ h => h) (fun _ h => h) (fun u t H1 locs1 ht hvm hp hb' _ _ hS => kk u H1 locs1 hp ⟨by obtain ⟨-, -, -, h⟩ := hb'; rw [ht] at h; exact h, hS⟩)
theorem he_callr {kd : Nat} {post : (Nat → Nat → Int) → Prop} {av : Array Value} (hr : va_Run p l e R s m args below meth c H locs cells slots 0 0 (F0 m pc ls st0) rest (he_Qr dC dI dA κ B kd post av) (hp_A B)) (hJ : he_J dC dI dA κ B g H0 H locs)
    (kk : ∀ (b : Nat) (g' : Nat → Nat → Int) (H1 : Heap) (locs1 : List Loc), κ b = kd → post g' → he_J dC dI dA κ B g' H0 H1 locs1 → W p l e R s m args below meth c H1 locs1 cells slots Q (F0 m (pc + 3) ls (.ref b :: rest))) : W p l e R s m args below meth c H locs cells slots Q (F0 m (pc) ls (st0)) := va_callr hr hJ.2 (fun _ _ h => h) (fun _ h => h) (fun u b t H1 locs1 ht hvm hp hb' _ _ hS => kk b u H1 locs1 hb'.2 hp ⟨by obtain ⟨⟨-, -, -, h⟩, -⟩ := hb'; rw [ht] at h; exact h, hS⟩)
theorem he_iret (hx : p.tables.exec = Jvm.exec) (hb : c.code = cc) (hK : va_K (dC, dI) vwCl (hp_ty dA) s) (hN : hp_N s) (hW : hp_W κ B) (hlocks : meth.locks = false) (hJ : he_J dC dI dA κ B g s.heap H locs) (hr : meth.sig.returnType = some .int) {post : Int32 → (Nat → Nat → Int) → Prop} {v : Int32} (hp : post v g) (hdg : decode cc pc = .ok (.ireturn, 1)) : W p l e R s m args below meth c H locs cells slots (MQ below (he_Qi dC dI dA κ B post) args s cells slots (hp_A B)) (F0 m (pc) ls ([.int v])) :=
  W.iret hx hb hr (fun t ht hw => ⟨⟨v, g, rfl, hp, he_S.of hK hN hW hJ ht hw⟩, hJ.2.F ht⟩) hJ.2.2.2 hdg hlocks
theorem he_zret (hx : p.tables.exec = Jvm.exec) (hb : c.code = cc) (hK : va_K (dC, dI) vwCl (hp_ty dA) s) (hN : hp_N s) (hW : hp_W κ B) (hlocks : meth.locks = false) (hJ : he_J dC dI dA κ B g s.heap H locs) (hr : meth.sig.returnType = some .boolean) {post : Int32 → (Nat → Nat → Int) → Prop} {v : Int32} (hv : v.toInt = 0 ∨ v.toInt = 1) (hp : post v g) (hdg : decode cc pc = .ok (.ireturn, 1)) : W p l e R s m args below meth c H locs cells slots (MQ below (he_Qi dC dI dA κ B post) args s cells slots (hp_A B)) (F0 m (pc) ls ([.int v])) :=
  W.zret hx hb hr (hi_bool hv) (fun t ht hw => ⟨⟨v, g, rfl, hp, he_S.of hK hN hW hJ ht hw⟩, hJ.2.F ht⟩) hJ.2.2.2 hdg hlocks
theorem he_vret (hx : p.tables.exec = Jvm.exec) (hb : c.code = cc) (hK : va_K (dC, dI) vwCl (hp_ty dA) s) (hN : hp_N s) (hW : hp_W κ B) (hlocks : meth.locks = false) (hJ : he_J dC dI dA κ B g s.heap H locs) (hr : meth.sig.returnType = none) {post : (Nat → Nat → Int) → Prop} (hp : post g) (hdg : decode cc pc = .ok (.return_, 1)) : W p l e R s m args below meth c H locs cells slots (MQ below (he_Qv dC dI dA κ B post) args s cells slots (hp_A B)) (F0 m (pc) ls ([])) :=
  W.vret hx hb hr (fun t ht hw => ⟨⟨g, rfl, hp, he_S.of hK hN hW hJ ht hw⟩, hJ.2.F ht⟩) hJ.2.2.2 hdg hlocks
theorem he_aret (hx : p.tables.exec = Jvm.exec) (hb : c.code = cc) (hK : va_K (dC, dI) vwCl (hp_ty dA) s) (hN : hp_N s) (hW : hp_W κ B) (hlocks : meth.locks = false) (hJ : he_J dC dI dA κ B g s.heap H locs) {C : String} (hr : meth.sig.returnType = some (.object C)) {kd b : Nat} {post : (Nat → Nat → Int) → Prop} (hκ : κ b = kd) (hp : post g) (hdg : decode cc pc = .ok (.areturn, 1)) : W p l e R s m args below meth c H locs cells slots (MQ below (he_Qr dC dI dA κ B kd post) args s cells slots (hp_A B)) (F0 m (pc) ls ([.ref b])) :=
  W.aret hx hb hr (Or.inl ⟨_, rfl⟩) (Or.inr ⟨_, rfl⟩) (fun t ht hw => ⟨⟨g, b, rfl, hp, he_S.of hK hN hW hJ ht hw, hκ⟩, hJ.2.F ht⟩) hJ.2.2.2 hdg hlocks
theorem he_putx (hx : p.tables.exec = Jvm.exec) (hb : c.code = cc) {own ref C : String} {T : u_T} {N ci index kd : Nat} {Ts : List Cond} (hts : ∀ w ∈ Ts, w.before args s = true) (hin : ∀ w ∈ u_ws C T N, w ∈ Ts) (hown : s.vm.findClass own = some m.cls) (hK : va_K (dC, dI) vwCl (hp_ty dA) s) (hJ : he_J dC dI dA κ B g H0 H locs) (hκ : κ a = kd) (ht : hk_t kd = (1, ci, N)) (hc : vwCl[ci]? = some (C, T, N)) (k : Nat) (hk : k < N) (hlink : (Cond.fieldLink own index ref (T k).2.1 (T k).2.2.1).before args s = true) (hsame : ∀ x, s.fieldFound? (T k).1 (T k).2.1 (T k).2.2.1 = some x → s.fieldFound? ref (T k).2.1 (T k).2.2.1 = some x) (ty0 : Nat → FieldType) (hty : ∀ k, k < N → parseFieldDescriptor (T k).2.2.1 = some (ty0 k)) (hnm : ∀ a, a < N → ∀ b, b < N → a ≠ b → (T a).2.1 ≠ (T b).2.1) {x : Int32} (hn : narrow (ty0 k) (.int x) = .int x) (hfit : fits (ty0 k) (.int x) = true) (h0 : kd ≠ 0) (hW : hp_W κ B) (hfin : (T k).2.2.2 = false) (hxx : hk_x kd = true) {sp : Nat × Nat} (hs : he_s kd k = sp) (hnn : he_n sp = true) (hv : he_i x.toInt sp x.toInt) (hdg : decode cc pc = .ok (.putfield index, 3))
    (kk : ∀ (g1 : Nat → Nat → Int) (H1 : Heap) (locs1 : List Loc), g1 kd k = x.toInt → (∀ a b : Nat, ¬ (a = kd ∧ b = k) → g1 a b = g a b) → he_J dC dI dA κ B g1 H0 H1 locs1 → W p l e R s m args below meth c H1 locs1 cells slots Q (F0 m (pc + 3) ls (rest))) : W p l e R s m args below meth c H locs cells slots Q (F0 m (pc) ls (.int x :: .ref a :: rest)) := he_putv hx hb hts hin hown hK hJ hκ ht hc k hk hlink hsame ty0 hty hnm hn hfit h0 hW hfin hdg (fun F H1 locs1 hM hO hS => kk _ H1 locs1 (hp_ug_s _ _ _ _) (fun _ _ h => hp_ug_n h) ⟨⟨_, hM, he_setX hO hW hκ hxx (by rw [hs]; exact he_i_ok hnn hv)⟩, hS⟩)
theorem he_putc (hx : p.tables.exec = Jvm.exec) (hb : c.code = cc) {own ref C : String} {T : u_T} {N ci index kd : Nat} {Ts : List Cond} (hts : ∀ w ∈ Ts, w.before args s = true) (hin : ∀ w ∈ u_ws C T N, w ∈ Ts) (hown : s.vm.findClass own = some m.cls) (hK : va_K (dC, dI) vwCl (hp_ty dA) s) (hJ : he_J dC dI dA κ B g H0 H locs) (hκ : κ a = kd) (ht : hk_t kd = (1, ci, N)) (hc : vwCl[ci]? = some (C, T, N)) (k : Nat) (hk : k < N) (hlink : (Cond.fieldLink own index ref (T k).2.1 (T k).2.2.1).before args s = true) (hsame : ∀ x, s.fieldFound? (T k).1 (T k).2.1 (T k).2.2.1 = some x → s.fieldFound? ref (T k).2.1 (T k).2.2.1 = some x) (ty0 : Nat → FieldType) (hty : ∀ k, k < N → parseFieldDescriptor (T k).2.2.1 = some (ty0 k)) (hnm : ∀ a, a < N → ∀ b, b < N → a ≠ b → (T a).2.1 ≠ (T b).2.1) {b : Nat} (hn : narrow (ty0 k) (.ref b) = .ref b) (hfit : fits (ty0 k) (.ref b) = true) (h0 : kd ≠ 0) (hW : hp_W κ B) (hfin : (T k).2.2.2 = false) (hxx : hk_x kd = true) (hs : he_s kd k = (6, 0)) {c9 : Nat} (hκb : κ b = 320 + c9) (hc13 : c9 < 13) (hdg : decode cc pc = .ok (.putfield index, 3))
    (kk : ∀ (g1 : Nat → Nat → Int) (H1 : Heap) (locs1 : List Loc), g1 kd k = 320 + (c9 : Int) → (∀ a b : Nat, ¬ (a = kd ∧ b = k) → g1 a b = g a b) → he_J dC dI dA κ B g1 H0 H1 locs1 → W p l e R s m args below meth c H1 locs1 cells slots Q (F0 m (pc + 3) ls (rest))) : W p l e R s m args below meth c H locs cells slots Q (F0 m (pc) ls (.ref b :: .ref a :: rest)) := he_putv hx hb hts hin hown hK hJ hκ ht hc k hk hlink hsame ty0 hty hnm hn hfit h0 hW hfin hdg (fun F H1 locs1 hM hO hS => kk _ H1 locs1 (hp_ug_s _ _ _ _) (fun _ _ h => hp_ug_n h) ⟨⟨_, hM, he_setX hO hW hκ hxx (by rw [hs]; exact ⟨b, c9, rfl, hc13, hκb, rfl⟩)⟩, hS⟩)
theorem he_getc (hx : p.tables.exec = Jvm.exec) (hb : c.code = cc) {own ref C : String} {T : u_T} {N ci index kd : Nat} {Ts : List Cond} (hts : ∀ w ∈ Ts, w.before args s = true) (hin : ∀ w ∈ u_ws C T N, w ∈ Ts) (hown : s.vm.findClass own = some m.cls) (hK : va_K (dC, dI) vwCl (hp_ty dA) s) (hJ : he_J dC dI dA κ B g H0 H locs) (hκ : κ a = kd) (ht : hk_t kd = (1, ci, N)) (hc : vwCl[ci]? = some (C, T, N)) (k : Nat) (hk : k < N) (hlink : (Cond.fieldLink own index ref (T k).2.1 (T k).2.2.1).before args s = true) (hsame : ∀ x, s.fieldFound? (T k).1 (T k).2.1 (T k).2.2.1 = some x → s.fieldFound? ref (T k).2.1 (T k).2.2.1 = some x) (hs : he_s kd k = (6, 0)) (hdg : decode cc pc = .ok (.getfield index, 3))
    (kk : ∀ b c9 : Nat, c9 < 13 → κ b = 320 + c9 → g kd k = 320 + (c9 : Int) → W p l e R s m args below meth c H locs cells slots Q (F0 m (pc + 3) ls (.ref b :: rest))) : W p l e R s m args below meth c H locs cells slots Q (F0 m (pc) ls (.ref a :: rest)) := by
  refine he_getv hx hb hts hin hown hK hJ hκ ht hc k hk hlink hsame hdg (fun v hv => ?_)
  rw [hs] at hv
  obtain ⟨b, c9, rfl, h1, h2, h3⟩ := (show ∃ b c9 : Nat, v = .ref b ∧ c9 < 13 ∧ κ b = 320 + c9 ∧ g kd k = 320 + (c9 : Int) from hv)
  exact kk b c9 h1 h2 h3
theorem he_iastx (hx : p.tables.exec = Jvm.exec) (hb : c.code = cc) {kd n : Nat} (hK : va_K (dC, dI) vwCl (hp_ty dA) s) (hJ : he_J dC dI dA κ B g H0 H locs) (hκ : κ a = kd) (ht : hk_t kd = (2, 0, n)) {i : Int32} (h1 : 0 ≤ i.toInt) (h2 : i.toInt < (n : Int)) {x : Int32} (h0 : kd ≠ 0) (hW : hp_W κ B) (hxx : hk_x kd = true) {sp : Nat × Nat} (hs : he_s kd i.toInt.toNat = sp) (hnn : he_n sp = true) (hv : he_i x.toInt sp x.toInt) (hdg : decode cc pc = .ok (.iastore, 1))
    (kk : ∀ (g1 : Nat → Nat → Int) (H1 : Heap) (locs1 : List Loc), g1 kd i.toInt.toNat = x.toInt → (∀ a b : Nat, ¬ (a = kd ∧ b = i.toInt.toNat) → g1 a b = g a b) → he_J dC dI dA κ B g1 H0 H1 locs1 → W p l e R s m args below meth c H1 locs1 cells slots Q (F0 m (pc + 1) ls (rest))) : W p l e R s m args below meth c H locs cells slots Q (F0 m (pc) ls (.int x :: .int i :: .ref a :: rest)) := he_iasv hx hb hK hJ hκ ht h1 h2 h0 hW hdg (fun F H1 locs1 hM hO hS => kk _ H1 locs1 (hp_ug_s _ _ _ _) (fun _ _ h => hp_ug_n h) ⟨⟨_, hM, he_setX hO hW hκ hxx (by rw [hs]; exact he_i_ok hnn hv)⟩, hS⟩)
theorem he_zastx (hx : p.tables.exec = Jvm.exec) (hb : c.code = cc) {kd n : Nat} (hK : va_K (dC, dI) vwCl (hp_ty dA) s) (hJ : he_J dC dI dA κ B g H0 H locs) (hκ : κ a = kd) (ht : hk_t kd = (2, 2, n)) {i : Int32} (h1 : 0 ≤ i.toInt) (h2 : i.toInt < (n : Int)) {x : Int32} (h0 : kd ≠ 0) (hW : hp_W κ B) (hxx : hk_x kd = true) (hb1 : narrow .boolean (.int x) = .int x) {sp : Nat × Nat} (hs : he_s kd i.toInt.toNat = sp) (hnn : he_n sp = true) (hv : he_i x.toInt sp x.toInt) (hdg : decode cc pc = .ok (.bastore, 1))
    (kk : ∀ (g1 : Nat → Nat → Int) (H1 : Heap) (locs1 : List Loc), g1 kd i.toInt.toNat = x.toInt → (∀ a b : Nat, ¬ (a = kd ∧ b = i.toInt.toNat) → g1 a b = g a b) → he_J dC dI dA κ B g1 H0 H1 locs1 → W p l e R s m args below meth c H1 locs1 cells slots Q (F0 m (pc + 1) ls (rest))) : W p l e R s m args below meth c H locs cells slots Q (F0 m (pc) ls (.int x :: .int i :: .ref a :: rest)) := he_zasv hx hb hK hJ hκ ht h1 h2 h0 hW hdg (fun F H1 locs1 hM hO hS => kk _ H1 locs1 (hp_ug_s _ _ _ _) (fun _ _ h => hp_ug_n h) ⟨⟨_, hM, he_setX hO hW hκ hxx (by rw [hs, hb1]; exact he_i_ok hnn hv)⟩, hS⟩)
theorem he_bastx (hx : p.tables.exec = Jvm.exec) (hb : c.code = cc) {kd n : Nat} (hK : va_K (dC, dI) vwCl (hp_ty dA) s) (hJ : he_J dC dI dA κ B g H0 H locs) (hκ : κ a = kd) (ht : hk_t kd = (2, 1, n)) {i : Int32} (h1 : 0 ≤ i.toInt) (h2 : i.toInt < (n : Int)) {x : Int32} (h0 : kd ≠ 0) (hW : hp_W κ B) (hxx : hk_x kd = true) (hs : he_s kd i.toInt.toNat = (11, 0)) (hx1 : -128 ≤ x.toInt) (hx2 : x.toInt ≤ 127) (hdg : decode cc pc = .ok (.bastore, 1))
    (kk : ∀ (g1 : Nat → Nat → Int) (H1 : Heap) (locs1 : List Loc), g1 kd i.toInt.toNat = x.toInt → (∀ a b : Nat, ¬ (a = kd ∧ b = i.toInt.toNat) → g1 a b = g a b) → he_J dC dI dA κ B g1 H0 H1 locs1 → W p l e R s m args below meth c H1 locs1 cells slots Q (F0 m (pc + 1) ls (rest))) : W p l e R s m args below meth c H locs cells slots Q (F0 m (pc) ls (.int x :: .int i :: .ref a :: rest)) := he_basv hx hb hK hJ hκ ht h1 h2 h0 hW hdg (fun F H1 locs1 hM hO hS => kk _ H1 locs1 (hp_ug_s _ _ _ _) (fun _ _ h => hp_ug_n h) ⟨⟨_, hM, he_setX hO hW hκ hxx (by rw [hs, show narrow .byte (.int x) = .int x from congrArg Value.int (lg_i2b_small (v := x) hx1 (by omega))]; exact ⟨x, rfl, rfl, hx1, hx2⟩)⟩, hS⟩)
theorem he_aaldn (hx : p.tables.exec = Jvm.exec) (hb : c.code = cc) {kd n : Nat} (hK : va_K (dC, dI) vwCl (hp_ty dA) s) (hJ : he_J dC dI dA κ B g H0 H locs) (hκ : κ a = kd) (ht : hk_t kd = (2, 4, n)) {i : Int32} (h1 : 0 ≤ i.toInt) (h2 : i.toInt < (n : Int)) (hs : he_s kd i.toInt.toNat = (8, 0)) (hdg : decode cc pc = .ok (.aaload, 1))
    (kk : ∀ b j : Nat, j < 12 → κ b = 300 + j → g kd i.toInt.toNat = 300 + (j : Int) → W p l e R s m args below meth c H locs cells slots Q (F0 m (pc + 1) ls (.ref b :: rest))) : W p l e R s m args below meth c H locs cells slots Q (F0 m (pc) ls (.int i :: .ref a :: rest)) := by
  refine he_aalv4 hx hb hK hJ hκ ht h1 h2 hdg (fun v hv => ?_)
  rw [hs] at hv
  obtain ⟨b, j, rfl, q1, q2, q3⟩ := (show ∃ b j : Nat, v = .ref b ∧ j < 12 ∧ κ b = 300 + j ∧ g kd i.toInt.toNat = 300 + (j : Int) from hv)
  exact kk b j q1 q2 q3
theorem he_aastn (hx : p.tables.exec = Jvm.exec) (hb : c.code = cc) {kd n : Nat} (hK : va_K (dC, dI) vwCl (hp_ty dA) s) (hJ : he_J dC dI dA κ B g H0 H locs) (hκ : κ a = kd) (ht : hk_t kd = (2, 4, n)) {i : Int32} (h1 : 0 ≤ i.toInt) (h2 : i.toInt < (n : Int)) {b j : Nat} {q : vw_C} (h0 : kd ≠ 0) (hW : hp_W κ B) (hxx : hk_x kd = true) (hs : he_s kd i.toInt.toNat = (8, 0)) (hκb : κ b = 300 + j) (hj : j < 12) (hc : vwCl[2]? = some q) (hq : (hp_ty dA)[4]? = some (dA 4, .object q.1)) (hdg : decode cc pc = .ok (.aastore, 1))
    (kk : ∀ (g1 : Nat → Nat → Int) (H1 : Heap) (locs1 : List Loc), g1 kd i.toInt.toNat = 300 + (j : Int) → (∀ a b : Nat, ¬ (a = kd ∧ b = i.toInt.toNat) → g1 a b = g a b) → he_J dC dI dA κ B g1 H0 H1 locs1 → W p l e R s m args below meth c H1 locs1 cells slots Q (F0 m (pc + 1) ls (rest))) : W p l e R s m args below meth c H locs cells slots Q (F0 m (pc) ls (.ref b :: .int i :: .ref a :: rest)) := by
  obtain ⟨⟨F, hM, hO⟩, hS0⟩ := hJ
  have h := hM a
  rw [hκ, ht] at h
  have hv := hM b
  rw [hκb, hk_t300 (by omega)] at hv
  obtain ⟨cell, g1, g2, g3, -⟩ := (show t_OB b (dC 2) 4 (dI 2) H (F b) from hv)
  have hin := hi_in h1 h2
  have hlt : i.toNatClampNeg < n := Nat.not_le.mp fun q => hin (Or.inr q)
  have hi0 : ¬ i < 0 := fun q => hin (Or.inl q)
  have hcls := (hK.1 2 q hc).2
  obtain ⟨kA, comp, k1, k2', k3, -⟩ := (hK.2 4 _ hq).2
  have hcomp : comp = dC 2 := Option.some.inj (k3.symm.trans hcls.1)
  subst hcomp
  obtain ⟨kC, hkC, -⟩ := id hcls.2
  refine W.aast hx hb h (fun q h => by cases h) (fun h => by cases h) k1 k2' rfl hkC ⟨hi0, by show _ < (arrV _ _ _).slots.size; rw [arrV_size]; exact hlt⟩ g1 (fun q h => by rw [g3] at h; cases h) (by rw [g2]; exact hkC) (by rw [g2]; exact va_assign hcls) rfl rfl hdg fun H' e1 e2 e3 => ?_
  refine kk _ H' _ (hp_ug_s _ _ _ _) (fun _ _ h => hp_ug_n h) ⟨⟨_, hp_set (k := i.toInt.toNat) (v := .ref b) hM ?_ e3, he_setX hO hW hκ hxx (by rw [hs]; exact ⟨b, j, rfl, hj, hκb, rfl⟩)⟩, hS0.put e2 e3 (hW.1 a (by rw [hκ]; exact h0))⟩
  rw [hκ, ht]
  exact e1.trans (congrArg some (arrV_store _ _ _ _ _))
set_option maxHeartbeats 1000000 in
/-- bytes of one byte array of ours, laid into another one of which every number is said -/
theorem he_copye {kd ks ns : Nat} {a0 : Nat} (hx : p.tables.exec = Jvm.exec) (hb : c.code = cc) (hml : c.maxLocals = ls.size) {own : String} {index : Nat} (hown : s.vm.findClass own = some m.cls) (hlink : (Cond.methodLink own index arraycopyName).before args s = true) (hnat : (Cond.native arraycopyName).before args s = true) (hstat : (Cond.static arraycopyName).before args s = true) (hini : (Cond.initialized "java/lang/System").before args s = true)
    (hK : va_K (dC, dI) vwCl (hp_ty dA) s) (hW : hp_W κ B) (hJ : he_J dC dI dA κ B g H0 H locs) (hκs : κ a0 = ks) (hts : hk_t ks = (2, 1, ns)) (hss : ∀ j, he_s ks j = (11, 0)) (hκ : κ a = kd) (ht : hk_t kd = (2, 1, 420)) (hs : ∀ j, he_s kd j = (11, 0)) (hxx : hk_x kd = true) (h0 : kd ≠ 0)
    {sp dp n : Int32} (h1 : 0 ≤ sp.toInt) (h2 : 0 ≤ dp.toInt) (h3 : 0 ≤ n.toInt) (h4 : sp.toInt + n.toInt ≤ (ns : Int)) (h5 : dp.toInt + n.toInt ≤ 420)
    (hframes : 1 ≤ R.frames) (hlocals : (rest.map fun v => v.category).sum + (nativeFrameWords "java/lang/System" "arraycopy" 5 + 11) ≤ R.locals) (hdg : decode cc pc = .ok (.invokestatic index, 3))
    (kk : ∀ (g1 : Nat → Nat → Int) (H1 : Heap) (locs1 : List Loc), (∀ i : Nat, (i : Int) < n.toInt → g1 kd (dp.toInt.toNat + i) = g ks (sp.toInt.toNat + i)) → (∀ a b : Nat, ¬ (a = kd ∧ dp.toInt.toNat ≤ b ∧ b < dp.toInt.toNat + n.toInt.toNat) → g1 a b = g a b) → he_J dC dI dA κ B g1 H0 H1 locs1 → W p l e R s m args below meth c H1 locs1 cells slots Q (F0 m (pc + 3) ls rest)) : W p l e R s m args below meth c H locs cells slots Q (F0 m pc ls (.int n :: .int dp :: .ref a :: .int sp :: .ref a0 :: rest)) := by
  intro T hT X
  obtain ⟨⟨F, hM, hO⟩, hS⟩ := hJ
  have hd0 := hM a
  rw [hκ, ht] at hd0
  have hd : H[a]? = some (arrV (dA 1) 420 (F a)) := hd0
  have hs0 := hM a0
  rw [hκs, hts] at hs0
  have hcs : H[a0]? = some (arrV (dA 1) ns (F a0)) := hs0
  have hel : ∀ i : Nat, i < ns → ∃ x : Int32, F a0 i = .int x ∧ x.toInt = g ks i ∧ -128 ≤ x.toInt ∧ x.toInt ≤ 127 := by
    intro i hi
    have ho := hO a0 i
    rw [hκs, hts, hss] at ho
    exact ho hi
  obtain ⟨ho0, k0, hk0, cm0, hkk0⟩ := (hK.2 1 _ rfl).1 ns (F a0)
  obtain ⟨ho1, k1, hk1, cm1, hkk1⟩ := (hK.2 1 _ rfl).1 420 (F a)
  have c1 := hi_cl h1
  have c2 := hi_cl h2
  have c3 := hi_cl h3
  have hget : ∀ i : Nat, i < n.toNatClampNeg → ∃ x : Int32, (arrV (dA 1) ns (F a0)).slots.getD (sp.toNatClampNeg + i) .null = .int x ∧ x.toInt = g ks (sp.toNatClampNeg + i) ∧ -128 ≤ x.toInt ∧ x.toInt ≤ 127 := by
    intro i hi
    obtain ⟨x, hx1, hx2⟩ := hel (sp.toNatClampNeg + i) (by omega)
    exact ⟨x, by rw [Array.getD_eq_getD_getElem?, arrV_read _ _ (by omega), hx1]; rfl, hx2⟩
  obtain ⟨vm', X', step⟩ := X.arraycopy hx hown hlink hnat hstat hini (src := a0) (dst := a) (cs := arrV (dA 1) ns (F a0)) (cd := arrV (dA 1) 420 (F a)) (srcPos := sp) (destPos := dp) (n := n) (by rw [hT]; exact hcs) (by rw [hT]; exact hd)
    ho0 ho1 (fun h => by cases h) (fun h => by cases h) hk0 hk1 hkk0 hkk1 rfl (hi_nn h1) (hi_nn h2) (hi_nn h3) (by rw [arrV_size]; omega) (by rw [arrV_size]; omega)
    (fun vm₁ _ i hi => by
      obtain ⟨x, hx1, hx2, hx3, hx4⟩ := hget i hi
      rw [hx1]
      exact ⟨hi_fb hx3 hx4, trivial⟩)
    (g := F0 m pc ls (.int n :: .int dp :: .ref a :: .int sp :: .ref a0 :: rest)) rfl (by rw [hml]) (rest := rest) rfl (by rw [hb]; exact hdg) hframes (by show 2 * 0 + _ + _ ≤ _; omega)
  obtain ⟨g1, eg1⟩ : ∃ g1 : Nat → Nat → Int, g1 = fun a b => if a = kd ∧ dp.toNatClampNeg ≤ b ∧ b < dp.toNatClampNeg + n.toNatClampNeg then g ks (sp.toNatClampNeg + (b - dp.toNatClampNeg)) else g a b := ⟨_, rfl⟩
  have g1n : ∀ a b : Nat, ¬ (a = kd ∧ dp.toNatClampNeg ≤ b ∧ b < dp.toNatClampNeg + n.toNatClampNeg) → g1 a b = g a b := fun a b h => by rw [eg1]; exact if_neg h
  have g1e : ∀ b : Nat, dp.toNatClampNeg ≤ b → b < dp.toNatClampNeg + n.toNatClampNeg → g1 kd b = g ks (sp.toNatClampNeg + (b - dp.toNatClampNeg)) := fun b q1 q2 => by rw [eg1]; exact if_pos ⟨rfl, q1, q2⟩
  obtain ⟨V, hV, hVb⟩ : ∃ V : Nat → Value, copied (arrV (dA 1) ns (F a0)) (arrV (dA 1) 420 (F a)) sp dp n = arrV (dA 1) 420 V ∧ ∀ k, k < 420 → he_ok κ (g1 kd k) (11, 0) (V k) := by
    refine ⟨_, ((show copied (arrV (dA 1) ns (F a0)) (arrV (dA 1) 420 (F a)) sp dp n = (arrV (dA 1) 420 (F a)).storePairs dp.toNatClampNeg (((arrV (dA 1) ns (F a0)).stretch sp.toNatClampNeg n.toNatClampNeg).zipIdx 0) from rfl).trans (va_pairs _ _ _ _ _ _)), fun k hk => ?_⟩
    have hlen : ((arrV (dA 1) ns (F a0)).stretch sp.toNatClampNeg n.toNatClampNeg).length = n.toNatClampNeg := by
      unfold Cell.stretch
      simp
    split
    · next hc =>
      rw [hlen] at hc
      obtain ⟨x, hx1, hx2, hx3, hx4⟩ := hget (k - (dp.toNatClampNeg + 0)) (by omega)
      refine ⟨x, ?_, ?_, hx3, hx4⟩
      · rw [← hx1]
        unfold Cell.stretch
        rw [List.getD_eq_getElem?_getD, List.getElem?_map, List.getElem?_range (by omega)]
        rfl
      · show x.toInt = g1 kd k
        rw [g1e k (by omega) (by omega), hx2]
        rfl
    · next hc =>
      rw [hlen] at hc
      have h9 := hO a k
      rw [hκ, ht, hs] at h9
      rw [g1n kd k (by omega)]
      exact h9 hk
  rw [hV] at X' step
  have hl : a < H.size := (Array.getElem?_eq_some_iff.mp hd).1
  have hheap : ((T.setVm vm').setCell a (arrV (dA 1) 420 V)).heap = H.setIfInBounds a (arrV (dA 1) 420 V) := by rw [← hT]; rfl
  have oq : ∀ q : Nat, q ≠ a → (H.setIfInBounds a (arrV (dA 1) 420 V))[q]? = H[q]? := fun q hq => by simp [Array.getElem?_setIfInBounds, Ne.symm hq]
  have hBa : B ≤ a := hW.1 a (by rw [hκ]; exact h0)
  have hM' : hp_M dC dI dA κ (fun b => if b = a then V else F b) (H.setIfInBounds a (arrV (dA 1) 420 V)) := by
    intro b
    by_cases hq : b = a
    · subst hq
      dsimp only
      rw [if_pos rfl, hκ, ht]
      show (H.setIfInBounds b (arrV (dA 1) 420 V))[b]? = some (arrV (dA 1) 420 V)
      simp [Array.getElem?_setIfInBounds, hl]
    · dsimp only
      rw [if_neg hq]
      exact (hM b).kept (oq b hq)
  have hO' : he_O κ g1 (fun b => if b = a then V else F b) := by
    intro b k hk
    by_cases hq : b = a
    · subst hq
      dsimp only
      rw [if_pos rfl, hκ, hs]
      rw [hκ, ht] at hk
      exact hVb k hk
    · dsimp only
      rw [if_neg hq, g1n (κ b) k (fun q => hq (hW.2 b a (by rw [q.1]; exact hxx) (by rw [q.1, hκ])))]
      exact hO b k hk
  obtain ⟨t, a1, b1⟩ := kk g1 _ _ (fun i hi => by
      have := g1e (dp.toNatClampNeg + i) (by omega) (by omega)
      rw [show dp.toNatClampNeg + i - dp.toNatClampNeg = i by omega] at this
      exact this) g1n ⟨⟨_, hM', hO'⟩, by simpa using hS.1, fun q g1 g2 => by
      rw [oq q (fun e => g2 (by rw [e]; exact hBa))]
      exact hS.2.1 q g1 g2, fun q hq => by
      rcases List.mem_append.mp hq with h | h
      · exact hS.2.2 q h
      · obtain ⟨z, -, hz⟩ := List.mem_map.mp h
        rw [← hz]
        exact hBa⟩ _ hheap X'
  exact ⟨t, step t a1, b1⟩
theorem he_m13 {mo : Nat} (hJ : he_J dC dI dA κ B g H0 H locs) (km : κ mo = 11) : 0 ≤ g 11 13 ∧ g 11 13 ≤ 12 := by
  obtain ⟨⟨F, hM, hO⟩, -⟩ := hJ
  have h := hO mo 13
  rw [km] at h
  obtain ⟨x, -, h1, h2, h3⟩ := (show ∃ x : Int32, F mo 13 = .int x ∧ x.toInt = g 11 13 ∧ 0 ≤ x.toInt ∧ x.toInt ≤ ((12 : Nat) : Int) from h (by decide))
  omega
theorem he_msz {mo : Nat} (hJ : he_J dC dI dA κ B g H0 H locs) (km : κ mo = 11) : ∀ k : Nat, k < 117 → g 30 k ≤ 60 := by
  obtain ⟨⟨F, hM, hO⟩, -⟩ := hJ
  have h := hO mo 18
  rw [km] at h
  obtain ⟨b, -, hb⟩ := (show ∃ b : Nat, F mo 18 = .ref b ∧ κ b = 30 from h (by decide))
  intro k hk
  have h2 := hO b k
  rw [hb] at h2
  obtain ⟨x, -, h3, h4, h5⟩ := (show ∃ x : Int32, F b k = .int x ∧ x.toInt = g 30 k ∧ -1 ≤ x.toInt ∧ x.toInt ≤ ((60 : Nat) : Int) from h2 hk)
  omega
end HEW
