theorem hp_Zeq {dC : Nat → ClassId} {dI : Nat → Nat → Nat} {dA : Nat → ClassId} {κ κ' : Nat → Nat} {B : Nat} {g : Nat → Nat → Int} {H0 H : Heap} {locs : List Loc} (h : κ = κ') (hZ : hp_Z dC dI dA κ B g H0 H locs) : hp_Z dC dI dA κ' B g H0 H locs := h ▸ hZ
/-- the same world in a state: for what makes -/
def hp_T (dC : Nat → ClassId) (dI : Nat → Nat → Nat) (dA : Nat → ClassId) (κ : Nat → Nat) (B : Nat) (g : Nat → Nat → Int) (U : State) : Prop := hp_S dC dI dA κ B g U ∧ hp_V κ ∧ hp_K κ ∧ B ≤ U.heap.size ∧ va_AO RX4 U ∧ va_AO RX2 U
/-- what a making did to the kinds -/
def hp_D (N : Nat → Prop) (κ κ' : Nat → Nat) (h0 kd : Nat) : Prop := κ' h0 = kd ∧ (∀ a : Nat, κ a ≠ 0 → a ≠ h0 → κ' a = κ a) ∧ ∀ a : Nat, κ a = 0 → N (κ' a)
abbrev hp_QT (dC : Nat → ClassId) (dI : Nat → Nat → Nat) (dA : Nat → ClassId) (κ : Nat → Nat) (B : Nat) (g : Nat → Nat → Int) (h0 kd : Nat) (N : Nat → Prop) : Array Value → State → Outcome → State → Prop := va_Qv (fun κ' => hp_D N κ κ' h0 kd) (fun κ' t => hp_T dC dI dA κ' B g t) (hp_A B)
abbrev hp_PT (dC : Nat → ClassId) (dI : Nat → Nat → Nat) (dA : Nat → ClassId) (κ : Nat → Nat) (B : Nat) (g : Nat → Nat → Int) (av : List Value) : Array Value → State → Prop := va_Pc av (hp_T dC dI dA κ B g)
theorem hp_T.of {dC : Nat → ClassId} {dI : Nat → Nat → Nat} {dA : Nat → ClassId} {κ : Nat → Nat} {B : Nat} {g : Nat → Nat → Int} {H0 H : Heap} {locs : List Loc} {s t : State} (hK : va_K (dC, dI) vwCl (hp_ty dA) s) (hN : hp_N s) (hAO : va_AO RX4 s ∧ va_AO RX2 s) (hZ : hp_Z dC dI dA κ B g H0 H locs) (ht : t.heap = H) (hw : s.WarmedH t.vm) : hp_T dC dI dA κ B g t :=
  ⟨hp_S.of hK hN hZ.1 hZ.2.2.2.2 ht hw, hZ.2.1, hZ.2.2.1, by rw [ht]; exact hZ.2.2.2.1, va_AO.moved hw.alike hAO.1, va_AO.moved hw.alike hAO.2⟩
theorem hp_preT {dC : Nat → ClassId} {dI : Nat → Nat → Nat} {dA : Nat → ClassId} {κ : Nat → Nat} {B : Nat} {g : Nat → Nat → Int} {H0 H : Heap} {locs : List Loc} {s : State} (As : List Value) (hK : va_K (dC, dI) vwCl (hp_ty dA) s) (hN : hp_N s) (hAO : va_AO RX4 s ∧ va_AO RX2 s) (hZ : hp_Z dC dI dA κ B g H0 H locs) : PreS s H (hp_PT dC dI dA κ B g As) As :=
  ⟨fun a U f mk h => by
    obtain ⟨h0, ⟨h1, h2, h3, h4⟩, h5, h6, h7, h8, h9⟩ := h
    exact ⟨h0, ⟨va_K.moved (u := U) (U := U.calling f mk a) (Vm.Alike.refl U.vm) h1, hp_N.same rfl h2, h3, h4⟩, h5, h6, h7, va_AO.moved (u := U) (U := U.calling f mk a) (Vm.Alike.refl U.vm) h8, va_AO.moved (u := U) (U := U.calling f mk a) (Vm.Alike.refl U.vm) h9⟩, fun _ hU hw => ⟨rfl, hp_T.of hK hN hAO hZ hU hw⟩⟩
section HPN
variable {p : Program} {l : Launch} {e : Env} {R : Room} {s : State} {m : MethodId} {args : Array Value} {below : List Frame} {meth : Method} {c : Code} {H : Heap} {locs : List Loc} {cells slots : Nat} {Q : State → Prop}
variable {cc : ByteArray} {pc : Nat} {ls : Array Slot} {rest st0 : List Value}
variable {dC : Nat → ClassId} {dI : Nat → Nat → Nat} {dA : Nat → ClassId} {κ : Nat → Nat} {B : Nat} {g : Nat → Nat → Int} {H0 : Heap} {a : Nat}
/-- new of a class -/
theorem hp_newo (hx : p.tables.exec = Jvm.exec) (hb : c.code = cc) {own C : String} {T : u_T} {N ci index : Nat} {Ts : List Cond} (hts : ∀ w ∈ Ts, w.before args s = true) (hin : ∀ w ∈ u_ws C T N, w ∈ Ts) (ty : Nat → FieldType) (hty : ∀ k, k < N → parseFieldDescriptor (T k).2.2.1 = some (ty k)) (hown : s.vm.findClass own = some m.cls) (hcl : (Cond.classLink own index C).before args s = true) (hinst : (Cond.instantiable C N).before args s = true) (hini : (Cond.initialized C).before args s = true)
    (hK : va_K (dC, dI) vwCl (hp_ty dA) s) (hZ : hp_Z dC dI dA κ B g H0 H locs) (hc : vwCl[ci]? = some (C, T, N)) {kd : Nat} (ht : hk_t kd = (1, ci, N)) (hok : hk_ok kd) (hd : ∀ (κ' : Nat → Nat) (k : Nat), k < N → hs_ok κ' (g kd k) (hk_s kd k) (defaultValue (ty k))) (hx1 : hk_x kd = true → ∀ a, κ a ≠ kd) (hcells : cells + 1 ≤ R.cells) (hslots : slots + N ≤ R.slots) (hdg : decode cc pc = .ok (.new index, 3))
    (kk : ∀ (b : Nat) (H1 : Heap), κ b = 0 → hp_Z dC dI dA (hp_kk κ b kd) B g H0 H1 locs → W p l e R s m args below meth c H1 locs (cells + 1) (slots + N) Q (F0 m (pc + 3) ls (.ref b :: rest))) : W p l e R s m args below meth c H locs cells slots Q (F0 m pc ls rest) := by
  have hKn := hK.1 ci _ hc
  refine W.newcK hx hb hown hcl hinst hini rfl hdg hcells hslots hKn.2.1 rfl fun H1 kC hkC e1 z1 o1 => ?_
  obtain ⟨h1, h2⟩ := hp_grow (kd := kd) hZ (fun k => defaultValue (ty k)) o1 z1 (by rw [ht]; exact u_born ty hts hin hKn hkC e1 hty) (fun κ' k hk => hd κ' k (by rw [ht] at hk; exact hk)) (by rw [ht]; simp) hok hx1
  exact kk H.size H1 h1 h2
/-- new of an array of a primitive type -/
theorem hp_newi (hx : p.tables.exec = Jvm.exec) (hb : c.code = cc) {atype : ArrayType} (harr : (Cond.arrayClass (newarray.typeOf atype)).before args s = true) (hK : va_K (dC, dI) vwCl (hp_ty dA) s) (hZ : hp_Z dC dI dA κ B g H0 H locs) {ty N kd : Nat} (hnm : s.vm.findClass ("[" ++ (newarray.typeOf atype).toString) = some (dA ty)) (ht : hk_t kd = (2, ty, N)) (hok : hk_ok kd)
    (hd : ∀ (κ' : Nat → Nat) (k : Nat), k < N → hs_ok κ' (g kd k) (hk_s kd k) (defaultValue (newarray.typeOf atype))) (hx1 : hk_x kd = true → ∀ a, κ a ≠ kd) {n : Int32} (hn : n.toInt = (N : Int)) (hbytes : N * componentBytes (newarray.typeOf atype) ≤ 536870912) (hcells : cells + 1 ≤ R.cells) (hslots : slots + N ≤ R.slots) (hdg : decode cc pc = .ok (.newarray atype, 2))
    (kk : ∀ (b : Nat) (H1 : Heap), κ b = 0 → hp_Z dC dI dA (hp_kk κ b kd) B g H0 H1 locs → W p l e R s m args below meth c H1 locs (cells + 1) (slots + N) Q (F0 m (pc + 2) ls (.ref b :: rest))) : W p l e R s m args below meth c H locs cells slots Q (F0 m pc ls (.int n :: rest)) := by
  have hcl := hi_cl (x := n) (by omega)
  refine va_newaK hx hb harr rfl hdg rfl (hi_nn (by omega)) (N := N) (by omega) hbytes hcells hslots rfl fun H1 cA e1 z1 o1 hAr hNm => ?_
  have hcA : cA = dA ty := Option.some.inj (hNm.symm.trans hnm)
  subst hcA
  obtain ⟨h1, h2⟩ := hp_grow (kd := kd) hZ (fun _ => defaultValue (newarray.typeOf atype)) o1 z1 (by rw [ht]; exact e1) (fun κ' k hk => hd κ' k (by rw [ht] at hk; exact hk)) (by rw [ht]; simp) hok hx1
  exact kk H.size H1 h1 h2
/-- new of an array of references -/
theorem hp_newr (hx : p.tables.exec = Jvm.exec) (hb : c.code = cc) {own C : String} {index : Nat} (hown : s.vm.findClass own = some m.cls) (hclink : (Cond.classLink own index C).before args s = true) (hover : va_AO C s) (hZ : hp_Z dC dI dA κ B g H0 H locs) {ty N kd : Nat} (hnm : s.vm.findClass ("[" ++ (FieldType.object C).toString) = some (dA ty)) (ht : hk_t kd = (2, ty, N)) (hok : hk_ok kd)
    (hd : ∀ (κ' : Nat → Nat) (k : Nat), k < N → hs_ok κ' (g kd k) (hk_s kd k) .null) (hx1 : hk_x kd = true → ∀ a, κ a ≠ kd) {n : Int32} (hn : n.toInt = (N : Int)) (hbytes : N * 4 ≤ 536870912) (hcells : cells + 1 ≤ R.cells) (hslots : slots + N ≤ R.slots) (hdg : decode cc pc = .ok (.anewarray index, 3))
    (kk : ∀ (b : Nat) (H1 : Heap), κ b = 0 → hp_Z dC dI dA (hp_kk κ b kd) B g H0 H1 locs → W p l e R s m args below meth c H1 locs (cells + 1) (slots + N) Q (F0 m (pc + 3) ls (.ref b :: rest))) : W p l e R s m args below meth c H locs cells slots Q (F0 m pc ls (.int n :: rest)) := by
  have hcl := hi_cl (x := n) (by omega)
  have hcn : n.toNatClampNeg = N := by omega
  subst hcn
  refine W.anew hx hb hown hclink (va_AO.use hover) rfl hdg rfl (hi_nn (by omega)) hbytes hcells hslots fun cA kA comp f1 f2 f3 f4 => ?_
  have hcA : cA = dA ty := Option.some.inj (f1.symm.trans hnm)
  subst hcA
  generalize hH1 : H.push ({ cls := dA ty, slots := Array.replicate n.toNatClampNeg .null, vm := .none } : Cell) = H1
  have z1 : H1.size = H.size + 1 := by rw [← hH1, Array.size_push]
  have e1 : H1[H.size]? = some (arrV (dA ty) n.toNatClampNeg (fun _ => .null)) := by rw [← hH1, Array.getElem?_push_size, ← arrV_new]
  have o1 : ∀ q : Nat, q < H.size → H1[q]? = H[q]? := fun q hq => by rw [← hH1, Array.getElem?_push, if_neg (Nat.ne_of_lt hq)]
  obtain ⟨h1, h2⟩ := hp_grow (kd := kd) hZ (fun _ => .null) o1 z1 (by rw [ht]; exact e1) (fun κ' k hk => hd κ' k (by rw [ht] at hk; exact hk)) (by rw [ht]; simp) hok hx1
  exact kk H.size H1 h1 h2
/-- behind a constructor of ours -/
theorem hp_callT {mc ms h0 kd : Nat} {Nn : Nat → Prop} {av : Array Value} (hr : va_Run p l e R s m args below meth c H locs cells slots mc ms (F0 m pc ls st0) rest (hp_QT dC dI dA κ B g h0 kd Nn av) (hp_A B)) (hZ : hp_Z dC dI dA κ B g H0 H locs)
    (kk : ∀ (κ' : Nat → Nat) (H1 : Heap) (locs1 : List Loc), hp_D Nn κ κ' h0 kd → hp_Z dC dI dA κ' B g H0 H1 locs1 → W p l e R s m args below meth c H1 locs1 (cells + mc) (slots + ms) Q (F0 m (pc + 3) ls (rest))) : W p l e R s m args below meth c H locs cells slots Q (F0 m pc ls (st0)) :=
  va_callv hr hZ.2.2.2.2.2 (fun _ _ h => h) (fun _ h => h) (fun u t H1 locs1 ht hvm hp hb' _ _ hS => kk u H1 locs1 hp ⟨hb'.1.2.2.1, hb'.2.1, hb'.2.2.1, by rw [← ht]; exact hb'.2.2.2.1, by obtain ⟨⟨-, -, -, h⟩, -⟩ := hb'; rw [ht] at h; exact h, hS⟩)
theorem hp_Tret (hx : p.tables.exec = Jvm.exec) (hb : c.code = cc) {κ' : Nat → Nat} (hK : va_K (dC, dI) vwCl (hp_ty dA) s) (hN : hp_N s) (hAO : va_AO RX4 s ∧ va_AO RX2 s) (hlocks : meth.locks = false) (hZ : hp_Z dC dI dA κ' B g s.heap H locs) (hr : meth.sig.returnType = none) {h0 kd : Nat} {Nn : Nat → Prop} (hD : hp_D Nn κ κ' h0 kd) (hdg : decode cc pc = .ok (.return_, 1)) : W p l e R s m args below meth c H locs cells slots (MQ below (hp_QT dC dI dA κ B g h0 kd Nn) args s cells slots (hp_A B)) (F0 m pc ls []) :=
  W.vret hx hb hr (fun t ht hw => ⟨⟨κ', rfl, hD, hp_T.of hK hN hAO hZ ht hw⟩, hZ.2.2.2.2.2.F ht⟩) hZ.2.2.2.2.2.2.2 hdg hlocks
end HPN
def hp_EN (N : Nat → Prop) (κ κi : Nat → Nat) (h0 b : Nat) : Prop := (∀ a : Nat, κ a ≠ 0 → a ≠ h0 → κi a = κ a) ∧ ∀ a : Nat, κ a = 0 → a = b ∨ N (κi a)
theorem en_rf {N : Nat → Prop} {κ : Nat → Nat} {h0 : Nat} (h0N : N 0) : hp_EN N κ κ h0 h0 := ⟨fun _ _ _ => rfl, fun _ h => Or.inr (by rw [h]; exact h0N)⟩
theorem en_new {N : Nat → Prop} {κ κi : Nat → Nat} {h0 b kd : Nat} (h : hp_EN N κ κi h0 h0) (hb : κi b = 0) (hk : N kd) : hp_EN N κ (hp_kk κi b kd) h0 h0 := by
  refine ⟨fun a h1 h2 => ?_, fun a h1 => ?_⟩
  · rw [hp_kk_n (fun e => h1 (by rw [← h.1 a h1 h2, e, hb]))]
    exact h.1 a h1 h2
  · by_cases e : a = b
    · rw [e, hp_kk_s]; exact Or.inr hk
    · rw [hp_kk_n e]; exact h.2 a h1
theorem en_raw {N : Nat → Prop} {κ κi : Nat → Nat} {h0 b kd : Nat} (h : hp_EN N κ κi h0 h0) (h0n : κ h0 ≠ 0) (hb : κi b = 0) : hp_EN N κ (hp_kk κi b kd) h0 b := by
  refine ⟨fun a h1 h2 => ?_, fun a h1 => ?_⟩
  · rw [hp_kk_n (fun e => h1 (by rw [← h.1 a h1 h2, e, hb]))]
    exact h.1 a h1 h2
  · by_cases e : a = b
    · exact Or.inl e
    · rw [hp_kk_n e]
      rcases h.2 a h1 with h3 | h3
      · rw [h3] at h1; exact absurd h1 h0n
      · exact Or.inr h3
theorem en_step {N : Nat → Prop} {κ κi : Nat → Nat} {h0 b k2 : Nat} (h : hp_EN N κ κi h0 b) (h0n : κ h0 ≠ 0) : hp_EN N κ (hp_kk κi h0 k2) h0 b := by
  refine ⟨fun a h1 h2 => ?_, fun a h1 => ?_⟩
  · rw [hp_kk_n h2]
    exact h.1 a h1 h2
  · rw [hp_kk_n (fun e => h0n (by rw [← e]; exact h1))]
    exact h.2 a h1
theorem en_call {N N' : Nat → Prop} {κ κi κ' : Nat → Nat} {h0 b kd : Nat} (h : hp_EN N κ κi h0 b) (hb : κ b = 0) (hD : hp_D N' κi κ' b kd) (hk : N kd) (hN : ∀ n, N' n → N n) : hp_EN N κ κ' h0 h0 := by
  refine ⟨fun a h1 h2 => ?_, fun a h1 => ?_⟩
  · have h3 := h.1 a h1 h2
    rw [hD.2.1 a (by rw [h3]; exact h1) (fun e => h1 (by rw [e]; exact hb))]
    exact h3
  · by_cases e : a = b
    · rw [e, hD.1]; exact Or.inr hk
    · rcases h.2 a h1 with h3 | h3
      · exact absurd h3 e
      · by_cases hz : κi a = 0
        · exact Or.inr (hN _ (hD.2.2 a hz))
        · rw [hD.2.1 a hz e]; exact Or.inr h3
theorem en_D {N : Nat → Prop} {κ κi : Nat → Nat} {h0 kd : Nat} (h : hp_EN N κ κi h0 h0) (h0n : κ h0 ≠ 0) (hk : κi h0 = kd) : hp_D N κ κi h0 kd :=
  ⟨hk, h.1, fun a ha => (h.2 a ha).elim (fun e => absurd (by rw [← e]; exact ha) h0n) id⟩
theorem en_b {N : Nat → Prop} {κ κi : Nat → Nat} {h0 b : Nat} (h : hp_EN N κ κi h0 h0) (hb : κi b = 0) (hbh : b ≠ h0) : κ b = 0 := Classical.byContradiction fun h1 => h1 (by rw [← h.1 b h1 hbh, hb])
theorem ne_k {κ : Nat → Nat} {a b n : Nat} (ha : κ a = n) (hb : κ b = 0) (hn : n ≠ 0) : a ≠ b := fun e => hn (by rw [← ha, e, hb])
/-- nothing of a kind was there, and nothing of it came -/
theorem en_no {N : Nat → Prop} {κ κi : Nat → Nat} {h0 b n : Nat} (h : hp_EN N κ κi h0 b) (hn : ∀ a, κ a ≠ n) (hN : ¬ N n) (h0k : κi h0 ≠ n) (hbk : κi b ≠ n) : ∀ a, κi a ≠ n := by
  intro a ha
  by_cases hah : a = h0
  · rw [hah] at ha; exact h0k ha
  · by_cases hz : κ a = 0
    · rcases h.2 a hz with h3 | h3
      · rw [h3] at ha; exact hbk ha
      · rw [ha] at h3; exact hN h3
    · exact hn a (by rw [← h.1 a hz hah]; exact ha)
