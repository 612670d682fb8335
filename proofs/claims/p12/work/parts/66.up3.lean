/-! WHAT THE LAW OF p11 AND p12 KEEPS: both tables are one -/
def hg_E (g : Nat → Nat → Int) : Prop := hg_L g ∧ hc_tab g = hm_tab g ∧ g 1 1 = g 11 1 ∧ (∀ i : Nat, (i : Int) < g 1 1 → g 12 i = g 38 i) ∧ (∀ j : Nat, j < 4 → g (5 + j) 0 = g 20 j) ∧ g 3 1 = g 27 12 ∧ ∀ r ∈ hc_tab g, hc_03 r.2.2.2
theorem hE_new {v : Nat → Nat → Int} (hw : hc_wf v) (ht : hc_tab v = hm_tab v) (hi : hr_inv (hc_tab v) (fun q => v (5 + q) 0)) (fl : ∀ j : Nat, j < 4 → v (5 + j) 0 = v 20 j) (e36 : v 3 1 = v 27 12) (b1 : 0 ≤ v 27 12) (b2 : v 27 12 ≤ 65535) (t1 : v 1 1 = v 11 1) (t2 : ∀ i : Nat, (i : Int) < v 1 1 → v 12 i = v 38 i) (h03 : ∀ r ∈ hc_tab v, hc_03 r.2.2.2) : hg_E v := by
  refine ⟨⟨hw, hi, ?_, b1, b2⟩, ht, t1, t2, fl, e36, h03⟩
  rw [← ht]
  refine hi.up (fun r hr q => ?_)
  have h4 := hi.1 r hr
  rw [← fl r.1.toNat (by omega)]
  exact q
theorem hE_keep {g v : Nat → Nat → Int} (h : hg_E g) (hc : hc_tab v = hc_tab g) (hw : hc_wf v) (hm : hm_tab v = hm_tab g) (fc : ∀ j : Nat, j < 4 → v (5 + j) 0 = g (5 + j) 0) (fm : ∀ j : Nat, v 20 j = g 20 j) (e3 : v 3 1 = g 3 1) (e27 : v 27 12 = g 27 12) (t1 : v 1 1 = v 11 1) (t2 : ∀ i : Nat, (i : Int) < v 1 1 → v 12 i = v 38 i) : hg_E v := by
  obtain ⟨⟨a1, a2, a3, a4, a5⟩, h2, h3, h4, h5, h6, h7⟩ := h
  refine hE_new hw (by rw [hc, hm, h2]) ?_ (fun j hj => by rw [fc j hj, fm j, h5 j hj]) (by rw [e3, e27, h6]) (by omega) (by omega) t1 t2 (by rw [hc]; exact h7)
  rw [hc]
  refine a2.up (fun r hr q => ?_)
  have h9 := a2.1 r hr
  rw [fc r.1.toNat (by omega)]
  exact q
theorem hE_03 {L : List hR} (h : ∀ r ∈ L, hc_03 r.2.2.2) : ∀ r ∈ L, ∀ q : hR, r = q → hc_03 q.2.2.2 := fun r hr q e => by rw [← e]; exact h r hr
theorem h03_tk {L : List hR} (h : ∀ r ∈ L, hc_03 r.2.2.2) : ∀ r ∈ hr_tk L, hc_03 r.2.2.2 := by
  intro r hr
  unfold hr_tk at hr
  rw [List.mem_filter] at hr
  obtain ⟨r0, h3, rfl⟩ := List.mem_map.mp hr.1
  exact h r0 h3
theorem h03_tks {L : List hR} (h : ∀ r ∈ L, hc_03 r.2.2.2) (n : Nat) : ∀ r ∈ hr_tks n L, hc_03 r.2.2.2 := by
  induction n with
  | zero => exact h
  | succ n ih => exact h03_tk ih
theorem h03_np {L : List hR} {p : Int} (h : ∀ r ∈ L, hc_03 r.2.2.2) : ∀ r ∈ hr_np p L, hc_03 r.2.2.2 := fun r hr => h r (List.mem_filter.mp hr).1
theorem h03_ln {L L' : List hR} {p held : Int} {con : hC} (h : ∀ r ∈ L, hc_03 r.2.2.2) (hc : hc_03 con) (hl : hr_LN L L' p con held) : ∀ r ∈ L', hc_03 r.2.2.2 := by
  rcases hl with ⟨-, hl⟩ | ⟨-, hl⟩
  · rcases hl with ⟨-, e⟩ | ⟨i, -, -, e⟩
    · rw [e]; exact h
    · rw [e]; exact fun r hr => h r ((List.eraseIdx_sublist _ _).subset hr)
  · rcases hl with ⟨i, hi, -, e⟩ | ⟨-, e⟩
    · rw [e]
      intro r hr
      rcases List.mem_or_eq_of_mem_set hr with hr | hr
      · exact h r hr
      · rw [hr]; exact hc
    · rcases e with ⟨-, e⟩ | ⟨-, e⟩
      · rw [e]; exact h
      · rw [e]
        intro r hr
        rcases List.mem_append.mp hr with hr | hr
        · exact h r hr
        · rw [List.mem_singleton] at hr
          rw [hr]; exact hc
theorem hb_eq (w : Int64) {s : Int} (h0 : 0 ≤ s) (h7 : s ≤ 7) : hb_c w s = hb_m w s := by
  have hb8 : ∀ (x y : Int64), x.toBitVec.setWidth 8 = y.toBitVec.setWidth 8 → x.toInt32.toInt8 = y.toInt32.toInt8 := by
    intro x y h
    apply Int8.toBitVec_inj.mp
    show ((x.toBitVec.signExtend 32).signExtend 8) = ((y.toBitVec.signExtend 32).signExtend 8)
    apply BitVec.eq_of_getLsbD_eq
    intro i hi
    have hq : (x.toBitVec.setWidth 8).getLsbD i = (y.toBitVec.setWidth 8).getLsbD i := by rw [h]
    rw [BitVec.getLsbD_setWidth, BitVec.getLsbD_setWidth] at hq
    rw [BitVec.getLsbD_signExtend, BitVec.getLsbD_signExtend, BitVec.getLsbD_signExtend, BitVec.getLsbD_signExtend]
    rw [if_pos (show i < 32 by omega), if_pos (show i < 32 by omega), if_pos (show i < 64 by omega), if_pos (show i < 64 by omega)]
    rw [decide_eq_true (show i < 32 by omega), Bool.true_and, Bool.true_and]
    exact hq
  unfold hb_c hb_m
  refine congrArg (fun z : Int8 => z.toInt32.toInt) (hb8 _ _ ?_)
  rcases (show s = 0 ∨ s = 1 ∨ s = 2 ∨ s = 3 ∨ s = 4 ∨ s = 5 ∨ s = 6 ∨ s = 7 by omega) with q | q | q | q | q | q | q | q <;> subst q
  · exact hb_bv w.toBitVec 0 (by decide)
  · exact hb_bv w.toBitVec 8 (by decide)
  · exact hb_bv w.toBitVec 16 (by decide)
  · exact hb_bv w.toBitVec 24 (by decide)
  · exact hb_bv w.toBitVec 32 (by decide)
  · exact hb_bv w.toBitVec 40 (by decide)
  · exact hb_bv w.toBitVec 48 (by decide)
  · exact hb_bv w.toBitVec 56 (by decide)
/-- at the start nothing is typed, no port is up, nothing is known -/
theorem he_hE {κ : Nat → Nat} {g g' : Nat → Nat → Int} {F : hp_F} {x mo : Nat} (hO : hp_O κ g F) (hg' : ∀ a k : Nat, hk_x (κ a) = true → g' (κ a) k = he_num κ (F a k)) (kx : κ x = 1) (km : κ mo = 11) (hz : ∀ a k : Nat, ¬ (a = 4 ∧ k = 2) → ¬ (a = 11 ∧ k = 23) → g a k = 0) : hg_E g' := by
  have hL0 := he_hL hO hg' kx km (hz 10 1 (by omega) (by omega)) (hz 11 13 (by omega) (by omega))
  have x11 : g' 1 1 = 0 := by
    have o := hO x 1
    rw [kx] at o
    obtain ⟨y, e, f⟩ := (show ∃ y : Int32, F x 1 = .int y ∧ y.toInt = g 1 1 from o (by decide))
    have h := hg' x 1 (by rw [kx]; rfl)
    rw [kx, e] at h
    rw [h]
    show y.toInt = 0
    rw [f, hz 1 1 (by omega) (by omega)]
  have m11 : g' 11 1 = 0 := by
    have o := hO mo 1
    rw [km] at o
    obtain ⟨y, e, f⟩ := (show ∃ y : Int32, F mo 1 = .int y ∧ y.toInt = g 11 1 from o (by decide))
    have h := hg' mo 1 (by rw [km]; rfl)
    rw [km, e] at h
    rw [h]
    show y.toInt = 0
    rw [f, hz 11 1 (by omega) (by omega)]
  have x10 : g' 10 1 = 0 ∧ g' 3 1 = 0 ∧ ∀ j : Nat, j < 4 → g' (5 + j) 0 = 0 := by
    have o1 := hO x 4
    have o5 := hO x 5
    have o3 := hO x 3
    rw [kx] at o1 o5 o3
    obtain ⟨b10, -, k10⟩ := (show ∃ b : Nat, F x 4 = .ref b ∧ κ b = 10 from o1 (by decide))
    obtain ⟨b3, -, k3⟩ := (show ∃ b : Nat, F x 5 = .ref b ∧ κ b = 3 from o5 (by decide))
    obtain ⟨b15, -, k15⟩ := (show ∃ b : Nat, F x 3 = .ref b ∧ κ b = 15 from o3 (by decide))
    refine ⟨?_, ?_, fun j hj => ?_⟩
    · have o := hO b10 1
      rw [k10] at o
      obtain ⟨y, e, f⟩ := (show ∃ y : Int32, F b10 1 = .int y ∧ y.toInt = g 10 1 from o (by decide))
      have h := hg' b10 1 (by rw [k10]; rfl)
      rw [k10, e] at h
      rw [h]
      show y.toInt = 0
      rw [f, hz 10 1 (by omega) (by omega)]
    · have o := hO b3 1
      rw [k3] at o
      obtain ⟨y, e, f1, f2⟩ := (show ∃ y : Int32, F b3 1 = .int y ∧ 0 ≤ y.toInt ∧ y.toInt ≤ ((0 : Nat) : Int) from o (by decide))
      have h := hg' b3 1 (by rw [k3]; rfl)
      rw [k3, e] at h
      rw [h]
      show y.toInt = 0
      omega
    · have o := hO b15 j
      rw [k15, hk_s15 hj] at o
      obtain ⟨b, -, kb⟩ := (show ∃ b : Nat, F b15 j = .ref b ∧ κ b = 5 + j from o hj)
      have o2 := hO b 0
      rw [kb, hk_t5 hj, hk_s5 hj (by decide)] at o2
      obtain ⟨y, e, f⟩ := (show ∃ y : Int32, F b 0 = .int y ∧ y.toInt = g (5 + j) 0 from o2 (by decide))
      have h := hg' b 0 (by rw [kb]; exact hk_x5 hj)
      rw [kb, e] at h
      rw [h]
      show y.toInt = 0
      rw [f, hz (5 + j) 0 (by omega) (by omega)]
  have m20 : (∀ j : Nat, j < 4 → g' 20 j = 0) ∧ g' 27 12 = 0 ∧ g' 11 13 = 0 := by
    have o1 := hO mo 7
    have o2 := hO mo 15
    have o3 := hO mo 13
    rw [km] at o1 o2 o3
    obtain ⟨b20, -, k20⟩ := (show ∃ b : Nat, F mo 7 = .ref b ∧ κ b = 20 from o1 (by decide))
    obtain ⟨b27, -, k27⟩ := (show ∃ b : Nat, F mo 15 = .ref b ∧ κ b = 27 from o2 (by decide))
    refine ⟨fun j hj => ?_, ?_, ?_⟩
    · have o := hO b20 j
      rw [k20] at o
      obtain ⟨y, e, f⟩ := (show ∃ y : Int32, F b20 j = .int y ∧ y.toInt = g 20 j from o hj)
      have h := hg' b20 j (by rw [k20]; rfl)
      rw [k20, e] at h
      rw [h]
      show y.toInt = 0
      rw [f, hz 20 j (by omega) (by omega)]
    · have o := hO b27 12
      rw [k27] at o
      obtain ⟨y, e, f1, f2⟩ := (show ∃ y : Int32, F b27 12 = .int y ∧ 0 ≤ y.toInt ∧ y.toInt ≤ ((0 : Nat) : Int) from o (by decide))
      have h := hg' b27 12 (by rw [k27]; rfl)
      rw [k27, e] at h
      rw [h]
      show y.toInt = 0
      omega
    · obtain ⟨y, e, f⟩ := (show ∃ y : Int32, F mo 13 = .int y ∧ y.toInt = g 11 13 from o3 (by decide))
      have h := hg' mo 13 (by rw [km]; rfl)
      rw [km, e] at h
      rw [h]
      show y.toInt = 0
      rw [f, hz 11 13 (by omega) (by omega)]
  have t1 : hc_tab g' = [] := by
    unfold hc_tab
    rw [x10.1]
    rfl
  have t2 : hm_tab g' = [] := by
    unfold hm_tab
    rw [m20.2.2]
    rfl
  exact ⟨hL0, by rw [t1, t2], by rw [x11, m11], fun i hi => absurd hi (by rw [x11]; omega), fun j hj => by rw [x10.2.2 j hj, m20.1 j hj], by rw [x10.2.1, m20.2.1], by rw [t1]; exact fun r hr => absurd hr List.not_mem_nil⟩
