/-! BYTES OF A LONG; A FRAME READ AS ONE FUNCTION OF ITS BYTES -/
def hb_c (w : Int64) (s : Int) : Int := ((w.toUInt64 >>> ((Int32.ofInt (8 * s)).toInt64.toUInt64 &&& Int64.toUInt64 63)).toInt64.toInt32.toInt8.toInt32).toInt
def hb_m (w : Int64) (s : Int) : Int := ((w >>> ((Int32.ofInt (8 * s)).toInt64 &&& 63)).toInt32.toInt8.toInt32).toInt
theorem hb_bv (v : BitVec 64) (s : Nat) (hs : s ≤ 56) : (v >>> s).setWidth 8 = (v.sshiftRight s).setWidth 8 := by
  apply BitVec.eq_of_getLsbD_eq
  intro i hi
  rw [BitVec.getLsbD_setWidth, BitVec.getLsbD_setWidth, BitVec.getLsbD_ushiftRight, BitVec.getLsbD_sshiftRight]
  simp only [show i < 8 from hi, decide_true, Bool.true_and]
  rw [if_pos (by omega)]
  simp [show ¬ 64 ≤ i by omega]
def hq_t (b : Nat → Int) (at_ : Nat) : Nat := ((b at_ % 256) / 2).toNat
def hq_n (b : Nat → Int) (at_ : Nat) : Nat := ((b at_ % 256 % 2) * 256 + b (at_ + 1) % 256).toNat
def hq_h (b : Nat → Int) (at_ : Nat) : Int := (b at_ % 256) * 256 + b (at_ + 1) % 256
def hq_ok (part t n : Nat) (rest sz : Int) : Prop := ¬ ((part < 3 ∧ t ≠ part + 1) ∨ (3 ≤ part ∧ 1 ≤ t ∧ t ≤ 3)) ∧ ¬ ((t = 0 ∧ n ≠ 0) ∨ ((t = 1 ∨ t = 2) ∧ (n < 2 ∨ 60 < n)) ∨ (t = 3 ∧ n < 2) ∨ (4 ≤ t ∧ t ≤ 8 ∧ 60 < n)) ∧ (n : Int) ≤ rest ∧ ¬ (4 ≤ t ∧ t ≤ 8 ∧ sz ≠ -1)
def hc_kp (con : hC) (t n : Nat) (f : Nat → Int) : hC := (fun x => if x = t then (n : Int) else con.1 x, fun x k => if x = t then (if k < n then f k else 0) else con.2 x k)
def hc_e : hC := (fun _ => -1, fun _ _ => 0)
noncomputable def hq_P (b : Nat → Int) (len : Int) : Nat → Nat → Nat → hC → Int → Bool × hC × Int
  | 0, _, _, con, held => (false, con, held)
  | m + 1, at_, part, con, held =>
    haveI := Classical.propDecidable (hq_ok part (hq_t b at_) (hq_n b at_) (len - at_ - 2) (con.1 (hq_t b at_)))
    if len < (at_ : Int) + 2 then (false, con, held)
    else if hq_ok part (hq_t b at_) (hq_n b at_) (len - at_ - 2) (con.1 (hq_t b at_)) then
      (if hq_t b at_ = 0 then (true, con, held)
       else if hq_t b at_ = 3 then hq_P b len m (at_ + 2 + hq_n b at_) (part + 1) con (hq_h b (at_ + 2))
       else if hq_t b at_ < 9 then hq_P b len m (at_ + 2 + hq_n b at_) (part + 1) (hc_kp con (hq_t b at_) (hq_n b at_) (fun k => b (at_ + 2 + k))) held
       else hq_P b len m (at_ + 2 + hq_n b at_) (part + 1) con held)
    else (false, con, held)
section HQP
variable {b : Nat → Int} {len held : Int} {m at_ part : Nat} {con : hC}
theorem hq_P_end (h : len < (at_ : Int) + 2) : hq_P b len m at_ part con held = (false, con, held) := by
  cases m with
  | zero => rfl
  | succ m => unfold hq_P; rw [if_pos h]
theorem hq_P_bad (h : ¬ hq_ok part (hq_t b at_) (hq_n b at_) (len - at_ - 2) (con.1 (hq_t b at_))) : hq_P b len m at_ part con held = (false, con, held) := by
  cases m with
  | zero => rfl
  | succ m =>
    unfold hq_P
    by_cases h1 : len < (at_ : Int) + 2
    · rw [if_pos h1]
    · rw [if_neg h1, if_neg h]
theorem hq_P_0 (h1 : ¬ len < (at_ : Int) + 2) (h : hq_ok part (hq_t b at_) (hq_n b at_) (len - at_ - 2) (con.1 (hq_t b at_))) (ht : hq_t b at_ = 0) : hq_P b len (m + 1) at_ part con held = (true, con, held) := by
  unfold hq_P
  rw [if_neg h1, if_pos h, if_pos ht]
theorem hq_P_3 (h1 : ¬ len < (at_ : Int) + 2) (h : hq_ok part (hq_t b at_) (hq_n b at_) (len - at_ - 2) (con.1 (hq_t b at_))) (ht : hq_t b at_ = 3) : hq_P b len (m + 1) at_ part con held = hq_P b len m (at_ + 2 + hq_n b at_) (part + 1) con (hq_h b (at_ + 2)) := by
  rw [hq_P, if_neg h1, if_pos h, if_neg (by omega), if_pos ht]
theorem hq_P_k (h1 : ¬ len < (at_ : Int) + 2) (h : hq_ok part (hq_t b at_) (hq_n b at_) (len - at_ - 2) (con.1 (hq_t b at_))) (h0 : hq_t b at_ ≠ 0) (h3 : hq_t b at_ ≠ 3) (h9 : hq_t b at_ < 9) : hq_P b len (m + 1) at_ part con held = hq_P b len m (at_ + 2 + hq_n b at_) (part + 1) (hc_kp con (hq_t b at_) (hq_n b at_) (fun k => b (at_ + 2 + k))) held := by
  rw [hq_P, if_neg h1, if_pos h, if_neg h0, if_neg h3, if_pos h9]
theorem hq_P_9 (h1 : ¬ len < (at_ : Int) + 2) (h : hq_ok part (hq_t b at_) (hq_n b at_) (len - at_ - 2) (con.1 (hq_t b at_))) (h9 : 9 ≤ hq_t b at_) : hq_P b len (m + 1) at_ part con held = hq_P b len m (at_ + 2 + hq_n b at_) (part + 1) con held := by
  rw [hq_P, if_neg h1, if_pos h, if_neg (by omega), if_neg (by omega), if_neg (by omega)]
/-- types 0 and 3 have no size -/
def hc_03 (con : hC) : Prop := con.1 0 = -1 ∧ con.1 3 = -1
theorem hq_P_03 (h : hc_03 con) : hc_03 (hq_P b len m at_ part con held).2.1 := by
  induction m generalizing at_ part con held with
  | zero => exact h
  | succ m ih =>
    by_cases h1 : len < (at_ : Int) + 2
    · rw [hq_P_end h1]; exact h
    · by_cases h2 : hq_ok part (hq_t b at_) (hq_n b at_) (len - at_ - 2) (con.1 (hq_t b at_))
      · by_cases h3 : hq_t b at_ = 0
        · rw [hq_P_0 h1 h2 h3]; exact h
        · by_cases h4 : hq_t b at_ = 3
          · rw [hq_P_3 h1 h2 h4]; exact ih h
          · by_cases h5 : hq_t b at_ < 9
            · rw [hq_P_k h1 h2 h3 h4 h5]
              refine ih ⟨?_, ?_⟩
              · unfold hc_kp
                dsimp only
                rw [if_neg (fun q => h3 q.symm)]
                exact h.1
              · unfold hc_kp
                dsimp only
                rw [if_neg (fun q => h4 q.symm)]
                exact h.2
            · rw [hq_P_9 h1 h2 (by omega)]; exact ih h
      · rw [hq_P_bad h2]; exact h
end HQP
theorem hq_P_cg {b b' : Nat → Int} {len : Int} (h : ∀ i : Nat, (i : Int) < len → b i = b' i) {m at_ part : Nat} {con : hC} {held : Int} : hq_P b len m at_ part con held = hq_P b' len m at_ part con held := by
  induction m generalizing at_ part con held with
  | zero => rfl
  | succ m ih =>
    by_cases h1 : len < (at_ : Int) + 2
    · rw [hq_P_end h1, hq_P_end h1]
    · have e0 := h at_ (by omega)
      have e1 := h (at_ + 1) (by omega)
      have et : hq_t b at_ = hq_t b' at_ := by unfold hq_t; rw [e0]
      have en : hq_n b at_ = hq_n b' at_ := by unfold hq_n; rw [e0, e1]
      by_cases h2 : hq_ok part (hq_t b at_) (hq_n b at_) (len - at_ - 2) (con.1 (hq_t b at_))
      · have h2' : hq_ok part (hq_t b' at_) (hq_n b' at_) (len - at_ - 2) (con.1 (hq_t b' at_)) := by rw [← et, ← en]; exact h2
        have hr := h2.2.2.1
        by_cases h3 : hq_t b at_ = 0
        · rw [hq_P_0 h1 h2 h3, hq_P_0 h1 h2' (by rw [← et]; exact h3)]
        · by_cases h4 : hq_t b at_ = 3
          · have hn2 : 2 ≤ hq_n b at_ := by
              have := h2.2.1
              omega
            rw [hq_P_3 h1 h2 h4, hq_P_3 h1 h2' (by rw [← et]; exact h4), ← en, show hq_h b (at_ + 2) = hq_h b' (at_ + 2) by unfold hq_h; rw [h (at_ + 2) (by omega), h (at_ + 2 + 1) (by omega)]]
            exact ih
          · by_cases h5 : hq_t b at_ < 9
            · rw [hq_P_k h1 h2 h3 h4 h5, hq_P_k h1 h2' (by rw [← et]; exact h3) (by rw [← et]; exact h4) (by rw [← et]; exact h5), ← en, ← et]
              have hk : hc_kp con (hq_t b at_) (hq_n b at_) (fun k => b (at_ + 2 + k)) = hc_kp con (hq_t b at_) (hq_n b at_) (fun k => b' (at_ + 2 + k)) := by
                unfold hc_kp
                refine Prod.ext rfl ?_
                funext x k
                dsimp only
                by_cases hx : x = hq_t b at_
                · rw [if_pos hx, if_pos hx]
                  by_cases hkn : k < hq_n b at_
                  · rw [if_pos hkn, if_pos hkn, h (at_ + 2 + k) (by omega)]
                  · rw [if_neg hkn, if_neg hkn]
                · rw [if_neg hx, if_neg hx]
              rw [hk]
              exact ih
            · rw [hq_P_9 h1 h2 (by omega), hq_P_9 h1 h2' (by rw [← et]; omega), ← en]
              exact ih
      · rw [hq_P_bad h2, hq_P_bad (by rw [← et, ← en]; exact h2)]
/-- one good frame does one thing to the rows -/
theorem hr_LN.det {L L1 L2 : List hR} {p held : Int} {con : hC} {up : Nat → Int} (hi : hr_inv L up) (h1 : hr_LN L L1 p con held) (h2 : hr_LN L L2 p con held) : L1 = L2 := by
  have huniq : ∀ (i j : Nat) (hi' : i < L.length) (hj : j < L.length), hr_m p con L[i] → hr_m p con L[j] → i = j := by
    intro i j hi' hj mi mj
    have hpw := List.pairwise_iff_getElem.mp hi.2
    refine Classical.byContradiction fun hne => ?_
    rcases Nat.lt_or_gt_of_ne hne with hlt | hlt
    · exact hpw i j hi' hj hlt ⟨mi.1.trans mj.1.symm, mi.2.tr mj.2.sy⟩
    · exact hpw j i hj hi' hlt ⟨mj.1.trans mi.1.symm, mj.2.tr mi.2.sy⟩
  rcases h1 with ⟨a0, h1⟩ | ⟨a0, h1⟩
  · rcases h2 with ⟨-, h2⟩ | ⟨b0, -⟩
    · rcases h1 with ⟨n1, e1⟩ | ⟨i, li, mi, e1⟩
      · rcases h2 with ⟨-, e2⟩ | ⟨j, lj, mj, e2⟩
        · rw [e1, e2]
        · exact absurd mj (n1 _ (List.getElem_mem lj))
      · rcases h2 with ⟨n2, e2⟩ | ⟨j, lj, mj, e2⟩
        · exact absurd mi (n2 _ (List.getElem_mem li))
        · rw [e1, e2, huniq i j li lj mi mj]
    · exact absurd a0 b0
  · rcases h2 with ⟨b0, -⟩ | ⟨-, h2⟩
    · exact absurd b0 a0
    · rcases h1 with ⟨i, li, mi, e1⟩ | ⟨n1, e1⟩
      · rcases h2 with ⟨j, lj, mj, e2⟩ | ⟨n2, -⟩
        · have hij := huniq i j li lj mi mj
          subst hij
          rw [e1, e2]
        · exact absurd mi (n2 _ (List.getElem_mem li))
      · rcases h2 with ⟨j, lj, mj, e2⟩ | ⟨-, e2⟩
        · exact absurd mj (n1 _ (List.getElem_mem lj))
        · rcases e1 with ⟨c1, e1⟩ | ⟨c1, e1⟩
          · rcases e2 with ⟨c2, e2⟩ | ⟨c2, e2⟩
            · rw [e1, e2]
            · omega
          · rcases e2 with ⟨c2, e2⟩ | ⟨c2, e2⟩
            · omega
            · rw [e1, e2]
theorem hq_ok_sz {part t n : Nat} {rest sz sz' : Int} (h : t ≤ 8 → sz = sz') : hq_ok part t n rest sz ↔ hq_ok part t n rest sz' := by
  by_cases ht : t ≤ 8
  · rw [h ht]
  · unfold hq_ok
    constructor
    · intro q
      exact ⟨q.1, q.2.1, q.2.2.1, fun q4 => ht q4.2.1⟩
    · intro q
      exact ⟨q.1, q.2.1, q.2.2.1, fun q4 => ht q4.2.1⟩
theorem hc_con_1 {g : Nat → Nat → Int} {c t : Nat} (ht : t < 9) : (hc_con g c).1 t = g (340 + c) t := by
  unfold hc_con hc_mk
  dsimp only
  rw [if_pos ht]
theorem hm_con_1 {g : Nat → Nat → Int} {i t : Nat} (ht : t < 9) : (hm_con g i).1 t = g 30 (9 * i + t) := by
  unfold hm_con hc_mk
  dsimp only
  rw [if_pos ht]
theorem hc_mk_e {s : Nat → Int} {b : Nat → Nat → Int} (h : ∀ t : Nat, t < 9 → s t = -1) : hc_mk s b = hc_e := by
  unfold hc_mk hc_e
  refine Prod.ext ?_ ?_
  · funext t
    dsimp only
    by_cases ht : t < 9
    · rw [if_pos ht, h t ht]
    · rw [if_neg ht]
  · funext t k
    dsimp only
    rw [if_neg (fun q => by have h9 := h t q.1; omega)]
theorem hc_st_ne {x t k n : Nat} (hx : x < 9) (hx0 : x ≠ 0 ∧ x ≠ 3) (ht : t < 9) (ht0 : t ≠ 0 ∧ t ≠ 3) (hne : x ≠ t) (hk : k < 60) (hn : n ≤ 60) : hc_st x + k < hc_st t ∨ hc_st t + n ≤ hc_st x + k := by
  unfold hc_st
  split <;> split <;> omega
theorem hc_kp_c {g u : Nat → Nat → Int} {cq t n : Nat} {f : Nat → Int} (ht : t < 9) (ht0 : t ≠ 0 ∧ t ≠ 3) (hn : n ≤ 60) (h1 : u (340 + cq) t = (n : Int)) (h1' : ∀ x : Nat, x ≠ t → u (340 + cq) x = g (340 + cq) x) (h2 : ∀ k : Nat, k < n → u (360 + cq) (hc_st t + k) = f k) (h2' : ∀ b : Nat, b < hc_st t ∨ hc_st t + n ≤ b → u (360 + cq) b = g (360 + cq) b) (hb : ∀ x : Nat, x < 9 → g (340 + cq) x ≤ 60 ∧ (0 < g (340 + cq) x → x ≠ 0 ∧ x ≠ 3)) : hc_con u cq = hc_kp (hc_con g cq) t n f := by
  unfold hc_con hc_mk hc_kp
  refine Prod.ext ?_ ?_
  · funext x
    dsimp only
    by_cases hx : x = t
    · rw [hx, if_pos ht, if_pos rfl, h1]
    · rw [if_neg hx, h1' x hx]
  · funext x k
    dsimp only
    by_cases hx : x = t
    · subst hx
      rw [if_pos rfl]
      by_cases hk : k < n
      · rw [if_pos (⟨ht, by rw [h1]; omega⟩ : x < 9 ∧ (k : Int) < u (340 + cq) x), if_pos hk, h2 k hk]
      · rw [if_neg (fun q : x < 9 ∧ (k : Int) < u (340 + cq) x => hk (by have := q.2; rw [h1] at this; omega)), if_neg hk]
    · rw [if_neg hx]
      by_cases hk : x < 9 ∧ (k : Int) < g (340 + cq) x
      · have hbx := hb x hk.1
        rw [if_pos (⟨hk.1, by rw [h1' x hx]; exact hk.2⟩ : x < 9 ∧ (k : Int) < u (340 + cq) x), if_pos hk, h2' _ (hc_st_ne hk.1 (hbx.2 (by omega)) ht ht0 hx (by omega) hn)]
      · rw [if_neg (fun q : x < 9 ∧ (k : Int) < u (340 + cq) x => hk ⟨q.1, by rw [← h1' x hx]; exact q.2⟩), if_neg hk]
theorem hc_kp_m {g u : Nat → Nat → Int} {i t n : Nat} {f : Nat → Int} (ht : t < 9) (hn : n ≤ 60) (h1 : u 30 (9 * i + t) = (n : Int)) (h1' : ∀ x : Nat, x < 9 → x ≠ t → u 30 (9 * i + x) = g 30 (9 * i + x)) (h2 : ∀ k : Nat, k < n → u 29 ((9 * i + t) * 60 + k) = f k) (h2' : ∀ x k : Nat, x < 9 → x ≠ t → k < 60 → u 29 ((9 * i + x) * 60 + k) = g 29 ((9 * i + x) * 60 + k)) (hb : ∀ x : Nat, x < 9 → g 30 (9 * i + x) ≤ 60) : hm_con u i = hc_kp (hm_con g i) t n f := by
  unfold hm_con hc_mk hc_kp
  refine Prod.ext ?_ ?_
  · funext x
    dsimp only
    by_cases hx : x = t
    · rw [hx, if_pos ht, if_pos rfl, h1]
    · rw [if_neg hx]
      by_cases hx9 : x < 9
      · rw [if_pos hx9, if_pos hx9, h1' x hx9 hx]
      · rw [if_neg hx9, if_neg hx9]
  · funext x k
    dsimp only
    by_cases hx : x = t
    · subst hx
      rw [if_pos rfl]
      by_cases hk : k < n
      · rw [if_pos (⟨ht, by rw [h1]; omega⟩ : x < 9 ∧ (k : Int) < u 30 (9 * i + x)), if_pos hk, h2 k hk]
      · rw [if_neg (fun q : x < 9 ∧ (k : Int) < u 30 (9 * i + x) => hk (by have := q.2; rw [h1] at this; omega)), if_neg hk]
    · rw [if_neg hx]
      by_cases hk : x < 9 ∧ (k : Int) < g 30 (9 * i + x)
      · have hbx := hb x hk.1
        rw [if_pos (⟨hk.1, by rw [h1' x hk.1 hx]; exact hk.2⟩ : x < 9 ∧ (k : Int) < u 30 (9 * i + x)), if_pos hk, h2' x k hk.1 hx (by omega)]
      · rw [if_neg (fun q : x < 9 ∧ (k : Int) < u 30 (9 * i + x) => hk ⟨q.1, by rw [← h1' x q.1 hx]; exact q.2⟩), if_neg hk]
/-- which types a neighbour told, by bits -/
def hb_tb (f : Nat → Bool) : Nat → Int32
  | 0 => 0
  | n + 1 => if f n = true then hb_tb f n ||| ((1 : Int32) <<< (Int32.ofNat n &&& 31)) else hb_tb f n
theorem hb_tb_cg {f f' : Nat → Bool} {n : Nat} (h : ∀ t : Nat, t < n → f t = f' t) : hb_tb f n = hb_tb f' n := by
  induction n with
  | zero => rfl
  | succ n ih =>
    show (if f n = true then hb_tb f n ||| ((1 : Int32) <<< (Int32.ofNat n &&& 31)) else hb_tb f n) = (if f' n = true then hb_tb f' n ||| ((1 : Int32) <<< (Int32.ofNat n &&& 31)) else hb_tb f' n)
    rw [h n (by omega), ih (fun t ht => h t (by omega))]
def hb_f (con : hC) (t : Nat) : Bool := decide (t ≠ 0) && decide (t ≠ 3) && decide (con.1 t ≠ -1)
/-- what neighbor and content answer of the rows -/
def hr_nb (L : List hR) (i what : Int) : Int := match (if 0 ≤ i then L[i.toNat]? else none) with
  | none => -1
  | some r => if what = 0 then r.1 else if what = 1 then r.2.1 else if what = 2 then r.2.2.1 else if what = 3 then (hb_tb (hb_f r.2.2.2) 9).toInt else -1
def hr_ct (L : List hR) (i type k : Int) : Int := match (if 0 ≤ i then L[i.toNat]? else none) with
  | none => -1
  | some r => if 1 ≤ type ∧ type ≤ 8 ∧ type ≠ 3 then (if k = -1 then r.2.2.2.1 type.toNat else if 0 ≤ k ∧ k < r.2.2.2.1 type.toNat then r.2.2.2.2 type.toNat k.toNat % 256 else -1) else -1
theorem hr_nb_no {L : List hR} {i what : Int} (h : i < 0 ∨ (L.length : Int) ≤ i) : hr_nb L i what = -1 := by
  unfold hr_nb
  by_cases h0 : 0 ≤ i
  · rw [if_pos h0, List.getElem?_eq_none (by omega)]
  · rw [if_neg h0]
theorem hr_nb_at {L : List hR} {i what : Int} (h0 : 0 ≤ i) (h : i.toNat < L.length) : hr_nb L i what = if what = 0 then L[i.toNat].1 else if what = 1 then L[i.toNat].2.1 else if what = 2 then L[i.toNat].2.2.1 else if what = 3 then (hb_tb (hb_f L[i.toNat].2.2.2) 9).toInt else -1 := by
  unfold hr_nb
  rw [if_pos h0, List.getElem?_eq_getElem h]
theorem hr_ct_no {L : List hR} {i type k : Int} (h : i < 0 ∨ (L.length : Int) ≤ i) : hr_ct L i type k = -1 := by
  unfold hr_ct
  by_cases h0 : 0 ≤ i
  · rw [if_pos h0, List.getElem?_eq_none (by omega)]
  · rw [if_neg h0]
theorem hr_ct_at {L : List hR} {i type k : Int} (h0 : 0 ≤ i) (h : i.toNat < L.length) : hr_ct L i type k = if 1 ≤ type ∧ type ≤ 8 ∧ type ≠ 3 then (if k = -1 then L[i.toNat].2.2.2.1 type.toNat else if 0 ≤ k ∧ k < L[i.toNat].2.2.2.1 type.toNat then L[i.toNat].2.2.2.2 type.toNat k.toNat % 256 else -1) else -1 := by
  unfold hr_ct
  rw [if_pos h0, List.getElem?_eq_getElem h]
theorem hb_tb_t {f : Nat → Bool} {n : Nat} (h : f n = true) : hb_tb f (n + 1) = hb_tb f n ||| ((1 : Int32) <<< (Int32.ofNat n &&& 31)) := by
  show (if f n = true then _ else _) = _
  rw [if_pos h]
theorem hb_tb_f {f : Nat → Bool} {n : Nat} (h : f n = false) : hb_tb f (n + 1) = hb_tb f n := by
  show (if f n = true then _ else _) = _
  rw [if_neg (by rw [h]; decide)]
theorem hb_f_c {g : Nat → Nat → Int} {j t : Nat} (h : hc_03 (hc_row g j).2.2.2) (ht : t < 9) : (decide (t ≠ 0) && decide (g (340 + (g (300 + j) 0 - 320).toNat) t ≠ -1)) = hb_f (hc_row g j).2.2.2 t := by
  have h1 : (hc_row g j).2.2.2.1 t = g (340 + (g (300 + j) 0 - 320).toNat) t := hc_con_1 ht
  unfold hb_f
  rw [h1]
  by_cases h3 : t = 3
  · subst h3
    have h9 := h.2
    rw [h1] at h9
    rw [decide_eq_false (p := g (340 + (g (300 + j) 0 - 320).toNat) 3 ≠ -1) (fun q => q h9), Bool.and_false, Bool.and_false]
  · rw [decide_eq_true (p := t ≠ 3) h3, Bool.and_true]
theorem hb_f_m {g : Nat → Nat → Int} {i t : Nat} (ht : t < 9) : hb_f (hm_row g i).2.2.2 t = (decide (t ≠ 0) && decide (t ≠ 3) && decide (g 30 (9 * i + t) ≠ -1)) := by
  have h1 : (hm_row g i).2.2.2.1 t = g 30 (9 * i + t) := hm_con_1 ht
  unfold hb_f
  rw [h1]
theorem hq_P_z {b : Nat → Int} {len held : Int} {at_ part : Nat} {con : hC} : hq_P b len 0 at_ part con held = (false, con, held) := rfl
theorem hc_con_2 {g : Nat → Nat → Int} {c t k : Nat} (ht : t < 9) (hk : (k : Int) < g (340 + c) t) : (hc_con g c).2 t k = g (360 + c) (hc_st t + k) := by
  unfold hc_con hc_mk
  dsimp only
  rw [if_pos ⟨ht, hk⟩]
theorem hm_con_2 {g : Nat → Nat → Int} {i t k : Nat} (ht : t < 9) (hk : (k : Int) < g 30 (9 * i + t)) : (hm_con g i).2 t k = g 29 ((9 * i + t) * 60 + k) := by
  unfold hm_con hc_mk
  dsimp only
  rw [if_pos ⟨ht, hk⟩]
theorem hc_no {g : Nat → Nat → Int} {c : Nat} {type r : Int32} (h3 : hc_03 (hc_con g c)) (hf : ((0 ≤ type.toInt ∧ type.toInt < 9 ∧ r.toInt = g (340 + c) type.toInt.toNat) ∨ ((type.toInt < 0 ∨ 9 ≤ type.toInt) ∧ r.toInt = -1)) ∧ -1 ≤ r.toInt ∧ r.toInt ≤ 60 ∧ (0 < r.toInt → (type.toInt = 1 ∨ type.toInt = 2 ∨ (4 ≤ type.toInt ∧ type.toInt ≤ 8)))) (ht : ¬ (1 ≤ type.toInt ∧ type.toInt ≤ 8 ∧ type.toInt ≠ 3)) : r.toInt = -1 := by
  have h0 := h3.1
  have h33 := h3.2
  rw [hc_con_1 (by decide)] at h0 h33
  rcases hf.1 with h | h
  · rcases (show type.toInt = 0 ∨ type.toInt = 3 by omega) with q | q
    · rw [q] at h; have h9 : r.toInt = g (340 + c) 0 := h.2.2; omega
    · rw [q] at h; have h9 : r.toInt = g (340 + c) 3 := h.2.2; omega
  · exact h.2
theorem hc_ct {g : Nat → Nat → Int} {c : Nat} {type k r : Int32} (h3 : hc_03 (hc_con g c)) (hf : ((0 ≤ k.toInt ∧ 0 ≤ type.toInt ∧ type.toInt < 9 ∧ k.toInt < g (340 + c) type.toInt.toNat) ∧ r.toInt = g (360 + c) (hc_st type.toInt.toNat + k.toInt.toNat) % 256) ∨ (¬ (0 ≤ k.toInt ∧ 0 ≤ type.toInt ∧ type.toInt < 9 ∧ k.toInt < g (340 + c) type.toInt.toNat) ∧ r.toInt = -1)) (hk1 : k.toInt ≠ -1) : r.toInt = if 1 ≤ type.toInt ∧ type.toInt ≤ 8 ∧ type.toInt ≠ 3 then (if k.toInt = -1 then (hc_con g c).1 type.toInt.toNat else if 0 ≤ k.toInt ∧ k.toInt < (hc_con g c).1 type.toInt.toNat then (hc_con g c).2 type.toInt.toNat k.toInt.toNat % 256 else -1) else -1 := by
  have h0 := h3.1
  have h33 := h3.2
  rw [hc_con_1 (by decide)] at h0 h33
  by_cases ht : 1 ≤ type.toInt ∧ type.toInt ≤ 8 ∧ type.toInt ≠ 3
  · rw [if_pos ht, if_neg hk1, hc_con_1 (by omega)]
    by_cases hk : 0 ≤ k.toInt ∧ k.toInt < g (340 + c) type.toInt.toNat
    · rw [if_pos hk, hc_con_2 (by omega) (by omega)]
      rcases hf with h | h
      · exact h.2
      · exact absurd ⟨hk.1, by omega, by omega, hk.2⟩ h.1
    · rw [if_neg hk]
      rcases hf with h | h
      · exact absurd ⟨h.1.1, h.1.2.2.2⟩ hk
      · exact h.2
  · rw [if_neg ht]
    rcases hf with h | h
    · rcases (show type.toInt = 0 ∨ type.toInt = 3 by omega) with q | q
      · rw [q] at h; have h9 : k.toInt < g (340 + c) 0 := h.1.2.2.2; omega
      · rw [q] at h; have h9 : k.toInt < g (340 + c) 3 := h.1.2.2.2; omega
    · exact h.2
