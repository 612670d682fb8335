theorem hp_alenS {p : Program} {l : Launch} {e : Env} {R : Room} {s : State} {m : MethodId} {args : Array Value} {below : List Frame} {meth : Method} {c : Code} {H : Heap} {locs : List Loc} {cells slots : Nat} {Q : State → Prop} {cc : ByteArray} {pc : Nat} {ls : Array Slot} {rest : List Value} {n : Int32} {a : Addr} {cell : Cell} {ty : FieldType} (hx : p.tables.exec = Jvm.exec) (hb : c.code = cc) (hcell : H[a]? = some cell) (harr : s.isArrayOf cell ty) (hn : cell.slots.size.toInt32 = n) (hdg : decode cc pc = .ok (.arraylength, 1)) (kk : W p l e R s m args below meth c H locs cells slots Q (F0 m (pc + 1) ls (.int n :: rest))) : W p l e R s m args below meth c H locs cells slots Q (F0 m pc ls (.ref a :: rest)) := W.alen hx hb hcell harr hn rfl rfl hdg kk
theorem iX0_keep_X0 : ∀ w ∈ wsX00, w ∈ wsX0_keep := fun _ h => List.mem_cons_of_mem _ (List.mem_append_right _ h)
set_option maxRecDepth 100000 in
set_option maxHeartbeats 4000000 in
theorem c_X0_keepS (l : Launch) (dC : Nat → ClassId) (dI : Nat → Nat → Nat) (dA : Nat → ClassId) (κ : Nat → Nat) (B : Nat) (g : Nat → Nat → Int) (h0 : Nat) (k0 : κ h0 = 333) (type : Int32) (frm : Nat) (start : Int32) (size : Int32) : Met l yX0_keep wsX0_keep ({ frames := 2, cells := 0, slots := 0, locals := 40 } : Room) (va_Pc [Value.ref h0, Value.int type, Value.ref frm, Value.int start, Value.int size] (fun U => hp_S dC dI dA κ B g U ∧ va_T .byte frm 2 (fun _ => .int 0) (hp_A B) U U.heap)) (hp_Qv dC dI dA κ B (fun u => g = u)) 0 0 (hp_A B) := by
  refine Met.ofW (cc := cX0_keep) (maxL := 5) (ret := none) (by decide) rfl ?_
  intro p e s m args below meth c s₁ Bd hml hv
  obtain ⟨rfl, ⟨hK, hN, hW, hF⟩, hT⟩ := hv
  obtain ⟨cs, hc1, hc2, hc3, hc4, hc5, hc6, hc7⟩ := hT
  have hcl : frm < s.heap.size := (Array.getElem?_eq_some_iff.mp hc1).1
  have hx := Bd.exec
  have hb := Bd.bytes
  have hr := Bd.returns
  have hts := atoms_spec (ws := wsX0_keep) Bd.pre
  have hown : s.vm.findClass RX0 = some m.cls := findClass_of_methodNamed Bd.named
  have hlocks := Bd.notSynchronized
  have hJ : hp_J dC dI dA κ B g s.heap s.heap [] := ⟨hF, va_S.rf⟩
  have hl := lv_entry ([Value.ref h0, Value.int type, Value.ref frm, Value.int start, Value.int size]) (n := 5) (Nat.le_of_ble_eq_true rfl)
  rw [lg_entry_eq]
  generalize (lg_sl ([Value.ref h0, Value.int type, Value.ref frm, Value.int start, Value.int size]) ++ List.replicate (5 - (lg_sl ([Value.ref h0, Value.int type, Value.ref frm, Value.int start, Value.int size])).length) Slot.unset).toArray = ls at hl ⊢
  have hl : lv_has ls 5 [(0, .ref h0), (1, .int type), (2, .ref frm), (3, .int start), (4, .int size)] := hl
  refine lv_iload_n hx hb dX0_keep_0 rfl (lv_at hl 1 rfl) ?_
  refine hp_calli (va_runS (As := [.int type]) (rest := []) ⟨hx, hb, hml, hown, hts⟩ (c_X0_isKept l dC dI dA κ B g type) (va_cwS 1 hts gX0_keep_X0_isKept rfl rfl rfl (by decide +kernel) ⟨Nat.le_of_ble_eq_true rfl, Nat.le_of_ble_eq_true rfl⟩) (hp_preS [.int type] hK hN hW hJ) rfl rfl hl.1 rfl (lv_room (Nat.le_of_ble_eq_true rfl)) dX0_keep_1 ⟨Nat.zero_le _, Nat.zero_le _⟩) hJ (fun x2 g1 H locs hp hJ => ?_)
  obtain ⟨rfl, f3⟩ := hp
  refine hq_if_eq (tgt := 55) hx hb dX0_keep_4 (by decide) (fun c4 => ?_) (fun c4 => ?_)
  · exact hp_vret hx hb hK hN hW hlocks hJ hr rfl dX0_keep_55
  · refine lv_iload hx hb dX0_keep_7 (lv_at hl 4 rfl) ?_
    refine hq_if_lt (tgt := 55) hx hb dX0_keep_9 (by decide) (fun c5 => ?_) (fun c5 => ?_)
    · exact hp_vret hx hb hK hN hW hlocks hJ hr rfl dX0_keep_55
    · refine lv_iload hx hb dX0_keep_12 (lv_at hl 4 rfl) ?_
      refine hq_bipush hx hb dX0_keep_14 (by decide) (fun z6 ez6 => ?_)
      refine hq_icmp_gt (tgt := 55) hx hb dX0_keep_16 (by decide) (fun c7 => ?_) (fun c7 => ?_)
      · exact hp_vret hx hb hK hN hW hlocks hJ hr rfl dX0_keep_55
      · refine lv_iload_n hx hb dX0_keep_19 rfl (lv_at hl 3 rfl) ?_
        refine hq_if_lt (tgt := 55) hx hb dX0_keep_20 (by decide) (fun c8 => ?_) (fun c8 => ?_)
        · exact hp_vret hx hb hK hN hW hlocks hJ hr rfl dX0_keep_55
        · refine lv_iload_n hx hb dX0_keep_23 rfl (lv_at hl 3 rfl) ?_
          refine lv_aload_n hx hb dX0_keep_24 rfl (lv_at hl 2 rfl) ?_
          refine hp_alenS (cell := cs) (n := Int32.ofNat 2) hx hb (by rw [hJ.2.2.1 frm hcl hc7]; exact hc1) hc2 hc5 dX0_keep_25 ?_
          refine lv_topi (fun x9 fx9 => ?_)
          have ex9 : x9.toInt = 2 := by rw [fx9]; rfl
          refine lv_iload hx hb dX0_keep_26 (lv_at hl 4 rfl) ?_
          refine hq_isub hx hb dX0_keep_28 (by omega) (by omega) (fun x10 ex10 => ?_)
          refine hq_icmp_gt (tgt := 55) hx hb dX0_keep_29 (by decide) (fun c11 => ?_) (fun c11 => ?_)
          · exact hp_vret hx hb hK hN hW hlocks hJ hr rfl dX0_keep_55
          · refine lv_aload_n hx hb dX0_keep_32 rfl (lv_at hl 2 rfl) ?_
            refine lv_iload_n hx hb dX0_keep_33 rfl (lv_at hl 3 rfl) ?_
            refine lv_aload_n hx hb dX0_keep_34 rfl (lv_at hl 0 rfl) ?_
            refine hp_getr (C := RX0) (T := TX0) (N := 2) (ci := 0) (kd := 333) hx hb hts iX0_keep_X0 hown hK hJ k0 rfl rfl 1 (by decide) (hts (.fieldLink RX0 15 "NeighborBook$Contents" "bytes" "[B") (List.mem_of_getElem? (i := 1) rfl)) (fun _ h9 => h9) rfl dX0_keep_35 (fun b12 kb12 => ?_)
            refine lv_iload_n hx hb dX0_keep_38 rfl (lv_at hl 1 rfl) ?_
            refine hp_calli (va_runS (As := [.int type]) (rest := [.ref b12, .int start, .ref frm]) ⟨hx, hb, hml, hown, hts⟩ (c_X0_startOf l dC dI dA κ B g type (by omega) (by omega)) (va_cwS 1 hts gX0_keep_X0_startOf rfl rfl rfl (by decide +kernel) ⟨Nat.le_of_ble_eq_true rfl, Nat.le_of_ble_eq_true rfl⟩) (hp_preS [.int type] hK hN hW hJ) rfl rfl hl.1 rfl (lv_room (Nat.le_of_ble_eq_true rfl)) dX0_keep_39 ⟨Nat.zero_le _, Nat.zero_le _⟩) hJ (fun x14 g13 H locs hp hJ => ?_)
            obtain ⟨rfl, f15⟩ := hp
            refine lv_iload hx hb dX0_keep_42 (lv_at hl 4 rfl) ?_
            refine hp_copyg hx hb (hml.trans hl.1.symm) hown (hts (.methodLink RX0 39 arraycopyName) (List.mem_of_getElem? (i := 2) rfl)) (hts (.native arraycopyName) (List.mem_of_getElem? (i := 3) rfl)) (hts (.static arraycopyName) (List.mem_of_getElem? (i := 4) rfl)) (hts (.initialized "java/lang/System") (List.mem_of_getElem? (i := 5) rfl)) hK hW hJ (cs := cs) (by rw [hJ.2.2.1 frm hcl hc7]; exact hc1) hc2 hc3 kb12 (by omega) (by omega) (by omega) (by omega) (by omega) (fun i hi => ⟨0, hc6 i (by omega), by decide, by decide⟩) (Nat.le_of_ble_eq_true rfl) (Nat.le_of_ble_eq_true rfl) dX0_keep_44 (fun H locs hJ => ?_)
            refine lv_aload_n hx hb dX0_keep_47 rfl (lv_at hl 0 rfl) ?_
            refine hp_getr (C := RX0) (T := TX0) (N := 2) (ci := 0) (kd := 333) hx hb hts iX0_keep_X0 hown hK hJ k0 rfl rfl 0 (by decide) (hts (.fieldLink RX0 9 "NeighborBook$Contents" "sizes" "[I") (List.mem_of_getElem? (i := 6) rfl)) (fun _ h9 => h9) rfl dX0_keep_48 (fun b16 kb16 => ?_)
            refine lv_iload_n hx hb dX0_keep_51 rfl (lv_at hl 1 rfl) ?_
            refine lv_iload hx hb dX0_keep_52 (lv_at hl 4 rfl) ?_
            refine hp_iast (kd := 353) (n := 9) hx hb hK hJ kb16 rfl (by omega) (by omega) (by decide) hW (hk_s340 (q := 13) (by omega) _) (hs13_n _) (hs13_o (by omega) (by omega)) dX0_keep_54 (fun H locs hJ => ?_)
            exact hp_vret hx hb hK hN hW hlocks hJ hr rfl dX0_keep_55
theorem hp_preK {dC : Nat → ClassId} {dI : Nat → Nat → Nat} {dA : Nat → ClassId} {κ : Nat → Nat} {B : Nat} {g : Nat → Nat → Int} {H : Heap} {locs : List Loc} {s : State} {b kd ci N tF : Nat} {q : vw_C} (As : List Value) (hK : va_K (dC, dI) vwCl (hp_ty dA) s) (hN : hp_N s) (hW : hp_W κ B) (hJ : hp_J dC dI dA κ B g s.heap H locs) (hT : va_T .byte tF 2 (fun _ => .int 0) (hp_A B) s s.heap) (hκ : κ b = kd) (ht : hk_t kd = (1, ci, N)) (hc : vwCl[ci]? = some q) : PreV s H q.1 b (va_Pc (.ref b :: As) (fun U => hp_S dC dI dA κ B g U ∧ va_T .byte tF 2 (fun _ => .int 0) (hp_A B) U U.heap)) As := by
  obtain ⟨-, h2, h3⟩ := hp_preV (q := q) As hK hN hW hJ hκ ht hc
  refine ⟨fun a U f mk h => ?_, h2, fun U hU hw => ⟨rfl, (h3 U hU hw).2, ?_⟩⟩
  · obtain ⟨h0, ⟨g1, g2, g3, g4⟩, g5⟩ := h
    exact ⟨h0, ⟨va_K.moved (u := U) (U := U.calling f mk a) (Vm.Alike.refl U.vm) g1, hp_N.same rfl g2, g3, g4⟩, va_T.moved (u := U) (U := U.calling f mk a) (Vm.Alike.refl U.vm) g5⟩
  · rw [hU]
    exact (va_T.moved hw.alike hT).kept (fun a h1 h2 => hJ.2.2.1 a h1 h2)
