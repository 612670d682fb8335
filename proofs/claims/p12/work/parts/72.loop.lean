set_option maxRecDepth 100000 in
set_option maxHeartbeats 8000000 in
/-- the law's loop: whatever has been called, both tables are one -/
theorem law_loop {p : Program} {l : Launch} {e : Env} {s : State} {m : MethodId} {below : List Frame} {meth : Method} {c : Code} {dC : Nat → ClassId} {dI : Nat → Nat → Nat} {dA : Nat → ClassId} {κ : Nat → Nat} {B b L x mo : Nat} {xs : Nat → Int32} (hL : L ≤ 2048) (hx : p.tables.exec = Jvm.exec) (hb : c.code = cL_law) (hr : meth.sig.returnType = ret) (hml : c.maxLocals = 4) (hown : s.vm.findClass RL = some m.cls) (hts : ∀ w ∈ wsL_law, w.before #[Value.ref b] s = true) (hX : va_X b L xs s s.heap) (hbl : b < s.heap.size) (hlocks : meth.locks = false) (hB : B = s.heap.size) (hK : va_K (dC, dI) vwCl (hp_ty dA) s) (hN : hp_N s) (hW : hp_W κ B) (kx : κ x = 1) (km : κ mo = 11) :
    ∀ (n k : Nat) (v : Int32) (g : Nat → Nat → Int) (H : Heap) (locs : List Loc) (ls : Array Slot), v.toInt = (k : Int) → k ≤ L + 4 → L + 4 < k + n → hg_E g → he_J dC dI dA κ B g s.heap H locs → lv_has ls 4 [(0, .ref b), (1, .ref x), (2, .ref mo), (3, .int v)] → W p l e room_1 s m #[Value.ref b] below meth c H locs 600000 7302250 (lw_Z below #[Value.ref b] s) (F0 m 18 ls []) := by
  have hbA : ¬ hp_A B b := by rw [hB]; exact Nat.not_le.mpr hbl
  intro n
  induction n with
  | zero => intro k v g H locs ls h1 h2 h3; exact absurd h3 (by omega)
  | succ n ih =>
    intro k v g H locs ls hv hkL hn hEg hJ hl
    refine lv_iload_n hx hb dL_law_18 rfl (lv_at hl 3 rfl) ?_
    refine lv_aload_n hx hb dL_law_19 rfl (lv_at hl 0 rfl) ?_
    refine va_slen hx hb hX hbl hbA hJ.2 dL_law_20 ?_
    refine lv_topi (fun zl fzl => ?_)
    have ezl : zl.toInt = (L : Int) := by rw [fzl]; exact nI_toInt (n := L) (by omega)
    refine hq_iconst hx hb dL_law_21 (by decide) (by decide) (fun z4 ez4 => ?_)
    refine hq_isub hx hb dL_law_22 (by omega) (by omega) (fun w4 ew4 => ?_)
    refine hq_icmp_gt (tgt := 468) hx hb dL_law_23 (by decide) (fun c9 => ?_) (fun c9 => ?_)
    · refine lv_iconst (v := 1) hx hb dL_law_468 (by decide) ?_
      refine va_forget (fun q hq => by have := hJ.2.2.2 q hq; rw [hB] at this; exact this) ?_
      exact lw_ret hx hb hr hlocks dL_law_469
    · have nxt : ∀ (g' : Nat → Nat → Int) (H : Heap) (locs : List Loc) (ls : Array Slot), hg_E g' → he_J dC dI dA κ B g' s.heap H locs → lv_has ls 4 [(0, .ref b), (1, .ref x), (2, .ref mo), (3, .int v)] → W p l e room_1 s m #[Value.ref b] below meth c H locs 600000 7302250 (lw_Z below #[Value.ref b] s) (F0 m 462 ls []) := by
        intro g' H locs ls hEg' hJ hl
        refine hq_iinc (k := 3) (lv' := fun (z9 : Int32) => [(3, .int z9), (0, .ref b), (1, .ref x), (2, .ref mo)]) hx hb dL_law_462 hl rfl (by decide) (by decide) (by omega) (by omega) (by decide) (fun _ => rfl) (fun x9 ls ex9 hl => ?_)
        have hl : lv_has ls 4 [(3, .int x9), (0, .ref b), (1, .ref x), (2, .ref mo)] := hl
        refine lv_goto (tgt := 18) hx hb dL_law_465 (by decide) ?_
        exact ih (k + 4) x9 g' _ _ ls (by omega) (by omega) (by omega) hEg' hJ (lv_sub hl [1, 2, 3, 0] rfl)
      refine lv_aload_n hx hb dL_law_26 rfl (lv_at hl 0 rfl) ?_
      refine lv_iload_n hx hb dL_law_27 rfl (lv_at hl 3 rfl) ?_
      refine va_sld hx hb hX hbl hbA hJ.2 (hi_in (by omega) (by omega)) dL_law_28 ?_
      refine hq_bipush hx hb dL_law_29 (by decide) (fun z15 ez15 => ?_)
      refine hq_iandm (k := 4) hx hb dL_law_31 ez15 (by decide) (fun sw esw => ?_)
      have hs : (sw.toInt < 0 ∨ 11 < sw.toInt) ∨ sw.toInt = 0 ∨ sw.toInt = 1 ∨ sw.toInt = 2 ∨ sw.toInt = 3 ∨ sw.toInt = 4 ∨ sw.toInt = 5 ∨ sw.toInt = 6 ∨ sw.toInt = 7 ∨ sw.toInt = 8 ∨ sw.toInt = 9 ∨ sw.toInt = 10 ∨ sw.toInt = 11 := by omega
      rcases hs with hs | hs | hs | hs | hs | hs | hs | hs | hs | hs | hs | hs | hs
      · refine lv_tableOut (tgt := 462) hx hb dL_law_32 hs (by decide) ?_
        exact nxt g _ _ ls hEg hJ hl
      · refine lv_tableIn (off := 64) (tgt := 96) hx hb dL_law_32 (by omega) (by omega) (by rw [hs]; rfl) (by decide) ?_
        clear hs
        exact law_type hL hx hb hml hown hts hX hbl hbA hK hN hW kx km hv (by omega) hEg hJ hl nxt
      · refine lv_tableIn (off := 127) (tgt := 159) hx hb dL_law_32 (by omega) (by omega) (by rw [hs]; rfl) (by decide) ?_
        clear hs
        exact law_tell hL hx hb hml hown hts hX hbl hbA hK hN hW kx km hv (by omega) hEg hJ hl nxt
      · refine lv_tableIn (off := 150) (tgt := 182) hx hb dL_law_32 (by omega) (by omega) (by rw [hs]; rfl) (by decide) ?_
        clear hs
        exact law_set hL hx hb hml hown hts hX hbl hbA hK hN hW kx km hv (by omega) hEg hJ hl nxt
      · refine lv_tableIn (off := 183) (tgt := 215) hx hb dL_law_32 (by omega) (by omega) (by rw [hs]; rfl) (by decide) ?_
        clear hs
        exact law_port hL hx hb hml hown hts hX hbl hbA hK hN hW kx km hv (by omega) hEg hJ hl nxt
      · refine lv_tableIn (off := 216) (tgt := 248) hx hb dL_law_32 (by omega) (by omega) (by rw [hs]; rfl) (by decide) ?_
        clear hs
        exact law_hear hL hx hb hml hown hts hX hbl hbA hK hN hW kx km hv (by omega) hEg hJ hl nxt
      · refine lv_tableIn (off := 239) (tgt := 271) hx hb dL_law_32 (by omega) (by omega) (by rw [hs]; rfl) (by decide) ?_
        clear hs
        exact law_tick hL hx hb hml hown hts hX hbl hbA hK hN hW kx km hv (by omega) hEg hJ hl nxt
      · refine lv_tableIn (off := 262) (tgt := 294) hx hb dL_law_32 (by omega) (by omega) (by rw [hs]; rfl) (by decide) ?_
        clear hs
        exact law_about hL hx hb hml hown hts hX hbl hbA hK hN hW kx km hv (by omega) hEg hJ hl nxt
      · refine lv_tableIn (off := 295) (tgt := 327) hx hb dL_law_32 (by omega) (by omega) (by rw [hs]; rfl) (by decide) ?_
        clear hs
        exact law_count hL hx hb hml hown hts hX hbl hbA hK hN hW kx km hv (by omega) hEg hJ hl nxt
      · refine lv_tableIn (off := 318) (tgt := 350) hx hb dL_law_32 (by omega) (by omega) (by rw [hs]; rfl) (by decide) ?_
        clear hs
        exact law_sent hL hx hb hml hown hts hX hbl hbA hK hN hW kx km hv (by omega) hEg hJ hl nxt
      · refine lv_tableIn (off := 341) (tgt := 373) hx hb dL_law_32 (by omega) (by omega) (by rw [hs]; rfl) (by decide) ?_
        clear hs
        exact law_neighbor hL hx hb hml hown hts hX hbl hbA hK hN hW kx km hv (by omega) hEg hJ hl nxt
      · refine lv_tableIn (off := 374) (tgt := 406) hx hb dL_law_32 (by omega) (by omega) (by rw [hs]; rfl) (by decide) ?_
        clear hs
        exact law_content hL hx hb hml hown hts hX hbl hbA hK hN hW kx km hv (by omega) hEg hJ hl nxt
      · refine lv_tableIn (off := 417) (tgt := 449) hx hb dL_law_32 (by omega) (by omega) (by rw [hs]; rfl) (by decide) ?_
        clear hs
        exact law_check hL hx hb hml hown hts hX hbl hbA hK hN hW kx km hv (by omega) hEg hJ hl nxt
