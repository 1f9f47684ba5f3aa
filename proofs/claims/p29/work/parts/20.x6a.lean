/-! STORMPURSES, 1: what is refused, mixed, reasonAgainst (own work, written by wip/tools) -/
theorem kf_1_5 : kF 1 1 5 := kF_B isB_1 (by decide) (by decide)
theorem kf_1_6 : kF 1 1 6 := kF_B isB_1 (by decide) (by decide)
theorem kf_1_7 : kF 1 1 7 := kF_B isB_1 (by decide) (by decide)
theorem kf_1_8 : kF 1 1 8 := kF_B isB_1 (by decide) (by decide)
theorem kf_1_9 : kF 1 1 9 := kF_B isB_1 (by decide) (by decide)
theorem kf_1_10 : kF 1 1 10 := kF_B isB_1 (by decide) (by decide)
theorem kf_1_11 : kF 1 1 11 := kF_B isB_1 (by decide) (by decide)
theorem ko_1 : kO 1 1 := kO_B isB_1
theorem rng (x : Int32) {n : Nat} (hn : n < 2 ^ 31) : (∃ a, a < n ∧ x = nI a) ∨ (x < 0 ∨ ¬ x < nI n) := by
  by_cases h : x < 0
  · exact Or.inr (Or.inl h)
  · obtain ⟨j, hj, e⟩ := nI_of h
    by_cases c : j < n
    · exact Or.inl ⟨j, c, e⟩
    · refine Or.inr (Or.inr ?_)
      rw [e]
      exact nI_nlt (by omega) hj
theorem rng2 (x : Int32) {lo hi : Nat} (hn : hi < 2 ^ 31) (hl : lo ≤ hi) : (∃ a, lo ≤ a ∧ a ≤ hi ∧ x = nI a) ∨ (x < nI lo ∨ ¬ x ≤ nI hi) := by
  by_cases h : x < 0
  · refine Or.inr (Or.inl ?_)
    have h1 := Int32.lt_iff_toInt_lt.mp h
    rw [show ((0 : Int32).toInt) = 0 from rfl] at h1
    refine Int32.lt_iff_toInt_lt.mpr ?_
    rw [nI_toInt (by omega)]
    omega
  · obtain ⟨j, hj, e⟩ := nI_of h
    by_cases c1 : j < lo
    · refine Or.inr (Or.inl ?_)
      rw [e]
      exact nI_lt c1 (by omega)
    · by_cases c2 : j ≤ hi
      · exact Or.inl ⟨j, by omega, c2, e⟩
      · refine Or.inr (Or.inr ?_)
        rw [e]
        intro q
        have := (nI_leI hj hn).mp q
        omega
set_option maxRecDepth 100000 in
set_option maxHeartbeats 4000000 in
theorem A_X6_needIslander {d : Nat → Nat → Int32} {r : Nat → Nat → Option Nat} {J : Nat → Nat → Int64} {a : Nat} (ha : a < 8) : OP kX6_needIslander yX6_needIslander 6 [.int (nI a)] d r J none d r J := by
  refine op_of pl_X6_needIslander (Nat.le_of_ble_eq_true rfl) ?_
  refine sw_iload_n (i := 0) dX6_needIslander_0 rfl rfl ?_
  refine px_Sx ms_X6_319 (A1_X2_isIslander (a := a) (by omega)) rfl rfl (Nat.le_of_ble_eq_true rfl) (Nat.le_of_ble_eq_true rfl) (Nat.le_of_ble_eq_true rfl) dX6_needIslander_1 ?_
  refine sw_if_ne (tgt := 18) dX6_needIslander_4 rfl (fun _ => ?_) (fun h9 => absurd h9 (by decide))
  exact sw_return rfl dX6_needIslander_18
set_option maxRecDepth 100000 in
set_option maxHeartbeats 4000000 in
theorem A_X6_needColour {d : Nat → Nat → Int32} {r : Nat → Nat → Option Nat} {J : Nat → Nat → Int64} {a : Nat} (ha : a < 4) : OP kX6_needColour yX6_needColour 6 [.int (nI a)] d r J none d r J := by
  refine op_of pl_X6_needColour (Nat.le_of_ble_eq_true rfl) ?_
  refine sw_iload_n (i := 0) dX6_needColour_0 rfl rfl ?_
  refine px_Sx ms_X6_327 (A1_X2_isColour (a := a) (by omega)) rfl rfl (Nat.le_of_ble_eq_true rfl) (Nat.le_of_ble_eq_true rfl) (Nat.le_of_ble_eq_true rfl) dX6_needColour_1 ?_
  refine sw_if_ne (tgt := 18) dX6_needColour_4 rfl (fun _ => ?_) (fun h9 => absurd h9 (by decide))
  exact sw_return rfl dX6_needColour_18
set_option maxRecDepth 100000 in
set_option maxHeartbeats 4000000 in
theorem A_X6_needPromise {d : Nat → Nat → Int32} {r : Nat → Nat → Option Nat} {J : Nat → Nat → Int64} {a : Nat} (ok : okMany (cV d 1)) (ha : a < nv (cV d 1) 1) : OP kX6_needPromise yX6_needPromise 6 [.ref 0, .int (nI a)] d r J none d r J := by
  refine op_of pl_X6_needPromise (Nat.le_of_ble_eq_true rfl) ?_
  refine sw_aload_n (i := 0) dX6_needPromise_0 rfl rfl ?_
  refine sx_getR (q := 1) f_X6_10 (by decide) kr_0_0 dX6_needPromise_1 ?_
  refine sw_iload_n (i := 1) dX6_needPromise_4 rfl rfl ?_
  refine px_Vx mv_X6_310 (A1_X2_isPromise isB_1 ok ha) rfl rfl (Nat.le_of_ble_eq_true rfl) (Nat.le_of_ble_eq_true rfl) ko_1 (Nat.le_of_ble_eq_true rfl) dX6_needPromise_5 ?_
  refine sw_if_ne (tgt := 22) dX6_needPromise_8 rfl (fun _ => ?_) (fun h9 => absurd h9 (by decide))
  exact sw_return rfl dX6_needPromise_22
set_option maxRecDepth 100000 in
set_option maxHeartbeats 4000000 in
theorem A_X6_needOthers {d : Nat → Nat → Int32} {r : Nat → Nat → Option Nat} {J : Nat → Nat → Int64} {x y9 : Int32} (h : ¬ x = y9) : OP kX6_needOthers yX6_needOthers 6 [.int x, .int y9] d r J none d r J := by
  refine op_of pl_X6_needOthers (Nat.le_of_ble_eq_true rfl) ?_
  refine sw_iload_n (i := 0) dX6_needOthers_0 rfl rfl ?_
  refine sw_iload_n (i := 1) dX6_needOthers_1 rfl rfl ?_
  refine sw_ic_ne (tgt := 16) dX6_needOthers_2 rfl (fun _ => ?_) (fun h9 => absurd h9 h)
  exact sw_return rfl dX6_needOthers_16
set_option maxRecDepth 100000 in
set_option maxHeartbeats 4000000 in
theorem A_X6_needRange {d : Nat → Nat → Int32} {r : Nat → Nat → Option Nat} {J : Nat → Nat → Int64} {a lo hi : Nat} (h1 : lo ≤ a) (h2 : a ≤ hi) (hh : hi < 2 ^ 31) : OP kX6_needRange yX6_needRange 6 [.int (nI a), .int (nI lo), .int (nI hi)] d r J none d r J := by
  refine op_of pl_X6_needRange (Nat.le_of_ble_eq_true rfl) ?_
  refine sw_iload_n (i := 0) dX6_needRange_0 rfl rfl ?_
  refine sw_iload_n (i := 1) dX6_needRange_1 rfl rfl ?_
  refine sw_ic_lt (tgt := 10) dX6_needRange_2 rfl (fun h9 => absurd h9 (nI_nlt h1 (by omega))) (fun _ => ?_)
  refine sw_iload_n (i := 0) dX6_needRange_5 rfl rfl ?_
  refine sw_iload_n (i := 2) dX6_needRange_6 rfl rfl ?_
  refine sw_ic_le (tgt := 21) dX6_needRange_7 rfl (fun _ => ?_) (fun h9 => absurd (nI_le h2 hh) h9)
  exact sw_return rfl dX6_needRange_21
def dff (V : Nat → Int32) (c e : Nat) (x y : Int32) : Int32 := x * V (7 + c) - y * V (7 + e)
def rsn (V : Nat → Int32) (a c b e : Nat) (x y : Int32) : Int32 := if V (19 + (a * 4 + c)) < x then nI 1 else if V (19 + (b * 4 + e)) < y then nI 2 else if (if 0 ≤ dff V c e x y then dff V c e x y else 0 - dff V c e x y) ≤ V 6 then nI 0 else nI 3
set_option maxRecDepth 100000 in
set_option maxHeartbeats 4000000 in
theorem A_X6_reasonAgainst {d : Nat → Nat → Int32} {r : Nat → Nat → Option Nat} {J : Nat → Nat → Int64} {a b c e : Nat} {x y : Int32} (ha : a < 8) (hb : b < 8) (hc : c < 4) (he : e < 4) : OP kX6_reasonAgainst yX6_reasonAgainst 2 [.ref 0, .int (nI a), .int (nI c), .int x, .int (nI b), .int (nI e), .int y] d r J (some (.int (rsn (cV d 1) a c b e x y))) d r J := by
  refine op_of pl_X6_reasonAgainst (Nat.le_of_ble_eq_true rfl) ?_
  refine sw_aload_n (i := 0) dX6_reasonAgainst_0 rfl rfl ?_
  refine sx_getR (q := 1) f_X6_10 (by decide) kr_0_0 dX6_reasonAgainst_1 ?_
  refine sw_iload_n (i := 1) dX6_reasonAgainst_4 rfl rfl ?_
  refine sw_iload_n (i := 2) dX6_reasonAgainst_5 rfl rfl ?_
  refine px_Vx mv_X6_168 (A_X2_capsOf (a := a) (c := c) isB_1 ha hc) rfl rfl (Nat.le_of_ble_eq_true rfl) (Nat.le_of_ble_eq_true rfl) ko_1 (Nat.le_of_ble_eq_true rfl) dX6_reasonAgainst_6 ?_
  refine sw_iload_n (i := 3) dX6_reasonAgainst_9 rfl rfl ?_
  refine sw_ic_ge (tgt := 15) dX6_reasonAgainst_10 rfl (fun h10 => ?_) (fun h10 => ?_)
  ·
    refine sw_ins (pc2 := 15) rfl rfl ?_
    refine sw_aload_n (i := 0) dX6_reasonAgainst_15 rfl rfl ?_
    refine sx_getR (q := 1) f_X6_10 (by decide) kr_0_0 dX6_reasonAgainst_16 ?_
    refine sw_iload (i := 4) dX6_reasonAgainst_19 rfl ?_
    refine sw_iload (i := 5) dX6_reasonAgainst_21 rfl ?_
    refine px_Vx mv_X6_168 (A_X2_capsOf (a := b) (c := e) isB_1 hb he) rfl rfl (Nat.le_of_ble_eq_true rfl) (Nat.le_of_ble_eq_true rfl) ko_1 (Nat.le_of_ble_eq_true rfl) dX6_reasonAgainst_23 ?_
    refine sw_iload (i := 6) dX6_reasonAgainst_26 rfl ?_
    refine sw_ic_ge (tgt := 33) dX6_reasonAgainst_28 rfl (fun h28 => ?_) (fun h28 => ?_)
    ·
      refine sw_iload_n (i := 3) dX6_reasonAgainst_33 rfl rfl ?_
      refine sw_ins (pc2 := 34) rfl rfl ?_
      refine sw_aload_n (i := 0) dX6_reasonAgainst_34 rfl rfl ?_
      refine sx_getR (q := 1) f_X6_10 (by decide) kr_0_0 dX6_reasonAgainst_35 ?_
      refine sw_iload_n (i := 2) dX6_reasonAgainst_38 rfl rfl ?_
      refine px_Vx mv_X6_105 (A_X2_worthOf (c := c) isB_1 hc) rfl rfl (Nat.le_of_ble_eq_true rfl) (Nat.le_of_ble_eq_true rfl) ko_1 (Nat.le_of_ble_eq_true rfl) dX6_reasonAgainst_39 ?_
      refine sw_imul dX6_reasonAgainst_42 ?_
      refine sw_iload (i := 6) dX6_reasonAgainst_43 rfl ?_
      refine sw_aload_n (i := 0) dX6_reasonAgainst_45 rfl rfl ?_
      refine sx_getR (q := 1) f_X6_10 (by decide) kr_0_0 dX6_reasonAgainst_46 ?_
      refine sw_ins (pc2 := 49) rfl rfl ?_
      refine sw_iload (i := 5) dX6_reasonAgainst_49 rfl ?_
      refine px_Vx mv_X6_105 (A_X2_worthOf (c := e) isB_1 he) rfl rfl (Nat.le_of_ble_eq_true rfl) (Nat.le_of_ble_eq_true rfl) ko_1 (Nat.le_of_ble_eq_true rfl) dX6_reasonAgainst_51 ?_
      refine sw_imul dX6_reasonAgainst_54 ?_
      refine sw_isub dX6_reasonAgainst_55 ?_
      refine sw_istore (i := 7) dX6_reasonAgainst_56 (Nat.le_of_ble_eq_true rfl) rfl ?_
      refine sw_lo (lo2 := [some (.ref 0), some (.int _), some (.int _), some (.int _), some (.int _), some (.int _), some (.int _), some (.int _)]) rfl ?_
      refine sw_iload (i := 7) dX6_reasonAgainst_58 rfl ?_
      refine sw_abs (y9 := 0) mm_X6_289 (Nat.le_of_ble_eq_true rfl) (Nat.le_of_ble_eq_true rfl) dX6_reasonAgainst_60 ?_
      refine sw_aload_n (i := 0) dX6_reasonAgainst_63 rfl rfl ?_
      refine sw_ins (pc2 := 64) rfl rfl ?_
      refine sx_getR (q := 1) f_X6_10 (by decide) kr_0_0 dX6_reasonAgainst_64 ?_
      refine sx_getIE (cV d 1 6) (cV_unfair d 1) f_X6_111 (by decide) kf_1_7 dX6_reasonAgainst_67 ?_
      refine sw_ic_le (tgt := 77) dX6_reasonAgainst_70 rfl (fun h70 => ?_) (fun h70 => ?_)
      ·
        refine sw_ic 0 dX6_reasonAgainst_77 ?_
        exact sw_ireturnE (by unfold rsn dff; first | (rw [if_pos (Int32.not_le.mp h10)]; done) | (rw [if_neg (Int32.not_lt.mpr h10), if_pos (Int32.not_le.mp h28)]; done) | (rw [if_neg (Int32.not_lt.mpr h10), if_neg (Int32.not_lt.mpr h28), if_pos h70]; done) | (rw [if_neg (Int32.not_lt.mpr h10), if_neg (Int32.not_lt.mpr h28), if_neg h70]; done)) rfl dX6_reasonAgainst_78
      ·
        refine sw_ic 3 dX6_reasonAgainst_73 ?_
        refine sw_goto (tgt := 78) dX6_reasonAgainst_74 rfl ?_
        exact sw_ireturnE (by unfold rsn dff; first | (rw [if_pos (Int32.not_le.mp h10)]; done) | (rw [if_neg (Int32.not_lt.mpr h10), if_pos (Int32.not_le.mp h28)]; done) | (rw [if_neg (Int32.not_lt.mpr h10), if_neg (Int32.not_lt.mpr h28), if_pos h70]; done) | (rw [if_neg (Int32.not_lt.mpr h10), if_neg (Int32.not_lt.mpr h28), if_neg h70]; done)) rfl dX6_reasonAgainst_78
    ·
      refine sw_ins (pc2 := 31) rfl rfl ?_
      refine sw_ic 2 dX6_reasonAgainst_31 ?_
      exact sw_ireturnE (by unfold rsn dff; first | (rw [if_pos (Int32.not_le.mp h10)]; done) | (rw [if_neg (Int32.not_lt.mpr h10), if_pos (Int32.not_le.mp h28)]; done) | (rw [if_neg (Int32.not_lt.mpr h10), if_neg (Int32.not_lt.mpr h28), if_pos h70]; done) | (rw [if_neg (Int32.not_lt.mpr h10), if_neg (Int32.not_lt.mpr h28), if_neg h70]; done)) rfl dX6_reasonAgainst_32
  ·
    refine sw_ic 1 dX6_reasonAgainst_13 ?_
    exact sw_ireturnE (by unfold rsn dff; first | (rw [if_pos (Int32.not_le.mp h10)]; done) | (rw [if_neg (Int32.not_lt.mpr h10), if_pos (Int32.not_le.mp h28)]; done) | (rw [if_neg (Int32.not_lt.mpr h10), if_neg (Int32.not_lt.mpr h28), if_pos h70]; done) | (rw [if_neg (Int32.not_lt.mpr h10), if_neg (Int32.not_lt.mpr h28), if_neg h70]; done)) rfl dX6_reasonAgainst_14
