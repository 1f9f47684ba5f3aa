/-! THE MODEL, 1: small methods (own work, written by wip/tools) -/
/-- the model's view -/
def mV (d : Nat → Nat → Int32) : Nat → Int32 := vM d 66 0
theorem mV_in (d : Nat → Nat → Int32) {x j : Nat} (hj : j < 83) (hx : x = j) : d 66 x = mV d j := vM_in d 66 0 hj (by omega)
theorem mV_d2 (d : Nat → Nat → Int32) {x j : Nat} (v : Int32) (hj : j < 83) (hx : x = j) : mV (d2 d 66 x v) = upd (mV d) j v := by
  subst hx
  exact vM_d2' d 66 v hj
theorem mV_keep {d d1 : Nat → Nat → Int32} (h : d1 66 = d 66) : mV d1 = mV d := vM_keep h
def inY (x lo hi : Int32) : Prop := lo ≤ x ∧ x ≤ hi
set_option maxRecDepth 100000 in
set_option maxHeartbeats 4000000 in
theorem A1_X7_in {d : Nat → Nat → Int32} {r : Nat → Nat → Option Nat} {J : Nat → Nat → Int64} {x y9 z : Int32} (h : inY x y9 z) : OP kX7_in yX7_in 0 [.int x, .int y9, .int z] d r J (some (.int (nI 1))) d r J := by
  refine op_of pl_X7_in (Nat.le_of_ble_eq_true rfl) ?_
  refine sw_iload_n (i := 0) dX7_in_0 rfl rfl ?_
  refine sw_iload_n (i := 1) dX7_in_1 rfl rfl ?_
  refine sw_ic_lt (tgt := 14) dX7_in_2 rfl (fun h9 => absurd h9 (Int32.not_lt.mpr h.1)) (fun _ => ?_)
  refine sw_iload_n (i := 0) dX7_in_5 rfl rfl ?_
  refine sw_iload_n (i := 2) dX7_in_6 rfl rfl ?_
  refine sw_ic_gt (tgt := 14) dX7_in_7 rfl (fun h9 => absurd h9 (Int32.not_lt.mpr h.2)) (fun _ => ?_)
  refine sw_ic 1 dX7_in_10 ?_
  refine sw_ins (pc2 := 11) rfl rfl ?_
  refine sw_goto (tgt := 15) dX7_in_11 rfl ?_
  exact sw_zreturnE rfl rfl rfl dX7_in_15
set_option maxRecDepth 100000 in
set_option maxHeartbeats 4000000 in
theorem A0_X7_in {d : Nat → Nat → Int32} {r : Nat → Nat → Option Nat} {J : Nat → Nat → Int64} {x y9 z : Int32} (h : ¬ inY x y9 z) : OP kX7_in yX7_in 0 [.int x, .int y9, .int z] d r J (some (.int (nI 0))) d r J := by
  refine op_of pl_X7_in (Nat.le_of_ble_eq_true rfl) ?_
  by_cases c : x < y9
  ·
    refine sw_iload_n (i := 0) dX7_in_0 rfl rfl ?_
    refine sw_iload_n (i := 1) dX7_in_1 rfl rfl ?_
    refine sw_ic_lt (tgt := 14) dX7_in_2 rfl (fun _ => ?_) (fun h9 => absurd c h9)
    refine sw_ic 0 dX7_in_14 ?_
    exact sw_zreturnE rfl rfl rfl dX7_in_15
  ·
    refine sw_iload_n (i := 0) dX7_in_0 rfl rfl ?_
    refine sw_iload_n (i := 1) dX7_in_1 rfl rfl ?_
    refine sw_ic_lt (tgt := 14) dX7_in_2 rfl (fun h9 => absurd h9 c) (fun _ => ?_)
    refine sw_iload_n (i := 0) dX7_in_5 rfl rfl ?_
    refine sw_iload_n (i := 2) dX7_in_6 rfl rfl ?_
    refine sw_ic_gt (tgt := 14) dX7_in_7 rfl (fun _ => ?_) (fun h9 => absurd (Int32.not_le.mp (fun q => h ⟨Int32.not_lt.mp c, q⟩)) h9)
    refine sw_ic 0 dX7_in_14 ?_
    refine sw_ins (pc2 := 15) rfl rfl ?_
    exact sw_zreturnE rfl rfl rfl dX7_in_15
theorem in_8 {k : Nat} (hk : k < 2 ^ 20) {x : Int32} : (x < 0 ∨ ¬ x < nI (k + 1)) → ¬ inY x (nI 0) (nI k) := by
  intro h g
  have g1 := Int32.le_iff_toInt_le.mp g.1
  have g2 := Int32.le_iff_toInt_le.mp g.2
  rw [nI_toInt (by omega)] at g1 g2
  rcases h with h | h
  · have h := Int32.lt_iff_toInt_lt.mp h
    rw [show (0 : Int32).toInt = 0 from rfl] at h
    omega
  · refine h (Int32.lt_iff_toInt_lt.mpr ?_)
    rw [nI_toInt (by omega)]
    omega
theorem in_a {k a : Nat} (hk : k < 2 ^ 20) (ha : a ≤ k) : inY (nI a) (nI 0) (nI k) := ⟨nI_le (Nat.zero_le _) (by omega), nI_le ha (by omega)⟩
theorem in_r {lo hi : Nat} {x : Int32} (h : x < nI lo ∨ ¬ x ≤ nI hi) : ¬ inY x (nI lo) (nI hi) := fun g => h.elim (fun q => absurd g.1 (Int32.not_le.mpr q)) (fun q => q g.2)
theorem in_s {lo hi a : Nat} (h1 : lo ≤ a) (h2 : a ≤ hi) (hh : hi < 2 ^ 31) : inY (nI a) (nI lo) (nI hi) := ⟨nI_le h1 (by omega), nI_le h2 hh⟩
set_option maxRecDepth 100000 in
set_option maxHeartbeats 4000000 in
theorem A1_X7_isIslander {d : Nat → Nat → Int32} {r : Nat → Nat → Option Nat} {J : Nat → Nat → Int64} {a : Nat} (ha : a < 8) : OP kX7_isIslander yX7_isIslander 1 [.int (nI a)] d r J (some (.int (nI 1))) d r J := by
  refine op_of pl_X7_isIslander (Nat.le_of_ble_eq_true rfl) ?_
  refine sw_iload_n (i := 0) dX7_isIslander_0 rfl rfl ?_
  refine sw_ic 0 dX7_isIslander_1 ?_
  refine sw_bi 7 dX7_isIslander_2 (by decide +kernel) ?_
  refine px_Sx ms_X7_39 (A1_X7_in (in_a (k := 7) (by decide) (Nat.le_of_lt_succ ha))) rfl rfl (Nat.le_of_ble_eq_true rfl) (Nat.le_of_ble_eq_true rfl) (Nat.le_of_ble_eq_true rfl) dX7_isIslander_4 ?_
  exact sw_zreturnE rfl rfl rfl dX7_isIslander_7
set_option maxRecDepth 100000 in
set_option maxHeartbeats 4000000 in
theorem A0_X7_isIslander {d : Nat → Nat → Int32} {r : Nat → Nat → Option Nat} {J : Nat → Nat → Int64} {x : Int32} (hx : x < 0 ∨ ¬ x < nI 8) : OP kX7_isIslander yX7_isIslander 1 [.int x] d r J (some (.int (nI 0))) d r J := by
  refine op_of pl_X7_isIslander (Nat.le_of_ble_eq_true rfl) ?_
  refine sw_iload_n (i := 0) dX7_isIslander_0 rfl rfl ?_
  refine sw_ic 0 dX7_isIslander_1 ?_
  refine sw_bi 7 dX7_isIslander_2 (by decide +kernel) ?_
  refine px_Sx ms_X7_39 (A0_X7_in (in_8 (k := 7) (by decide) hx)) rfl rfl (Nat.le_of_ble_eq_true rfl) (Nat.le_of_ble_eq_true rfl) (Nat.le_of_ble_eq_true rfl) dX7_isIslander_4 ?_
  exact sw_zreturnE rfl rfl rfl dX7_isIslander_7
set_option maxRecDepth 100000 in
set_option maxHeartbeats 4000000 in
theorem A1_X7_isColour {d : Nat → Nat → Int32} {r : Nat → Nat → Option Nat} {J : Nat → Nat → Int64} {a : Nat} (ha : a < 4) : OP kX7_isColour yX7_isColour 1 [.int (nI a)] d r J (some (.int (nI 1))) d r J := by
  refine op_of pl_X7_isColour (Nat.le_of_ble_eq_true rfl) ?_
  refine sw_iload_n (i := 0) dX7_isColour_0 rfl rfl ?_
  refine sw_ic 0 dX7_isColour_1 ?_
  refine sw_ic 3 dX7_isColour_2 ?_
  refine px_Sx ms_X7_39 (A1_X7_in (in_a (k := 3) (by decide) (Nat.le_of_lt_succ ha))) rfl rfl (Nat.le_of_ble_eq_true rfl) (Nat.le_of_ble_eq_true rfl) (Nat.le_of_ble_eq_true rfl) dX7_isColour_3 ?_
  exact sw_zreturnE rfl rfl rfl dX7_isColour_6
set_option maxRecDepth 100000 in
set_option maxHeartbeats 4000000 in
theorem A0_X7_isColour {d : Nat → Nat → Int32} {r : Nat → Nat → Option Nat} {J : Nat → Nat → Int64} {x : Int32} (hx : x < 0 ∨ ¬ x < nI 4) : OP kX7_isColour yX7_isColour 1 [.int x] d r J (some (.int (nI 0))) d r J := by
  refine op_of pl_X7_isColour (Nat.le_of_ble_eq_true rfl) ?_
  refine sw_iload_n (i := 0) dX7_isColour_0 rfl rfl ?_
  refine sw_ic 0 dX7_isColour_1 ?_
  refine sw_ic 3 dX7_isColour_2 ?_
  refine px_Sx ms_X7_39 (A0_X7_in (in_8 (k := 3) (by decide) hx)) rfl rfl (Nat.le_of_ble_eq_true rfl) (Nat.le_of_ble_eq_true rfl) (Nat.le_of_ble_eq_true rfl) dX7_isColour_3 ?_
  exact sw_zreturnE rfl rfl rfl dX7_isColour_6
set_option maxRecDepth 100000 in
set_option maxHeartbeats 4000000 in
theorem A1_X7_isSlot {d : Nat → Nat → Int32} {r : Nat → Nat → Option Nat} {J : Nat → Nat → Int64} {a : Nat} (ha : a < 2) : OP kX7_isSlot yX7_isSlot 1 [.int (nI a)] d r J (some (.int (nI 1))) d r J := by
  refine op_of pl_X7_isSlot (Nat.le_of_ble_eq_true rfl) ?_
  refine sw_iload_n (i := 0) dX7_isSlot_0 rfl rfl ?_
  refine sw_ic 0 dX7_isSlot_1 ?_
  refine sw_ic 1 dX7_isSlot_2 ?_
  refine px_Sx ms_X7_39 (A1_X7_in (in_a (k := 1) (by decide) (Nat.le_of_lt_succ ha))) rfl rfl (Nat.le_of_ble_eq_true rfl) (Nat.le_of_ble_eq_true rfl) (Nat.le_of_ble_eq_true rfl) dX7_isSlot_3 ?_
  exact sw_zreturnE rfl rfl rfl dX7_isSlot_6
set_option maxRecDepth 100000 in
set_option maxHeartbeats 4000000 in
theorem A0_X7_isSlot {d : Nat → Nat → Int32} {r : Nat → Nat → Option Nat} {J : Nat → Nat → Int64} {x : Int32} (hx : x < 0 ∨ ¬ x < nI 2) : OP kX7_isSlot yX7_isSlot 1 [.int x] d r J (some (.int (nI 0))) d r J := by
  refine op_of pl_X7_isSlot (Nat.le_of_ble_eq_true rfl) ?_
  refine sw_iload_n (i := 0) dX7_isSlot_0 rfl rfl ?_
  refine sw_ic 0 dX7_isSlot_1 ?_
  refine sw_ic 1 dX7_isSlot_2 ?_
  refine px_Sx ms_X7_39 (A0_X7_in (in_8 (k := 1) (by decide) hx)) rfl rfl (Nat.le_of_ble_eq_true rfl) (Nat.le_of_ble_eq_true rfl) (Nat.le_of_ble_eq_true rfl) dX7_isSlot_3 ?_
  exact sw_zreturnE rfl rfl rfl dX7_isSlot_6
set_option maxRecDepth 100000 in
set_option maxHeartbeats 4000000 in
theorem A1_X7_isPromise {d : Nat → Nat → Int32} {r : Nat → Nat → Option Nat} {J : Nat → Nat → Int64} {a : Nat} (ok : okMany (mV d)) (ha : a < nv (mV d) 1) : OP kX7_isPromise yX7_isPromise 1 [.ref 65, .int (nI a)] d r J (some (.int (nI 1))) d r J := by
  refine op_of pl_X7_isPromise (Nat.le_of_ble_eq_true rfl) ?_
  refine sw_iload_n (i := 1) dX7_isPromise_0 rfl rfl ?_
  refine sw_ic 0 dX7_isPromise_1 ?_
  refine sw_aload_n (i := 0) dX7_isPromise_2 rfl rfl ?_
  refine sx_getR (q := 66) f_X7_7 (by decide) kr_65_0 dX7_isPromise_3 ?_
  refine sw_ic 1 dX7_isPromise_6 ?_
  refine sx_ialdE (1) (nI (nv (mV d) 1)) ((mV_in d (by omega) (by omega)).trans ok.1) rfl rfl (by omega) dX7_isPromise_7 ?_
  refine sw_ic 1 dX7_isPromise_8 ?_
  refine sw_ins (pc2 := 9) rfl rfl ?_
  refine sw_isub dX7_isPromise_9 ?_
  refine px_Sx ms_X7_39 (A1_X7_in (x := nI a) ⟨nI_le (Nat.zero_le _) (by have := ok.2; omega), by rw [pk_sub (by omega)]; exact nI_le (by omega) (by have := ok.2; omega)⟩) rfl rfl (Nat.le_of_ble_eq_true rfl) (Nat.le_of_ble_eq_true rfl) (Nat.le_of_ble_eq_true rfl) dX7_isPromise_10 ?_
  exact sw_zreturnE rfl rfl rfl dX7_isPromise_13
theorem in_m {k : Nat} (hk : k ≤ 8) {x : Int32} (h : x < 0 ∨ ¬ x < nI k) : ¬ inY x (nI 0) (nI k - nI 1) := by
  intro g
  have g1 := Int32.le_iff_toInt_le.mp g.1
  have g2 := Int32.le_iff_toInt_le.mp g.2
  rw [nI_toInt (by omega)] at g1
  rw [pk_sub_toInt (by omega) (by omega)] at g2
  rcases h with h | h
  · have h := Int32.lt_iff_toInt_lt.mp h
    rw [show (0 : Int32).toInt = 0 from rfl] at h
    omega
  · refine h (Int32.lt_iff_toInt_lt.mpr ?_)
    rw [nI_toInt (by omega)]
    omega
set_option maxRecDepth 100000 in
set_option maxHeartbeats 4000000 in
theorem A0_X7_isPromise {d : Nat → Nat → Int32} {r : Nat → Nat → Option Nat} {J : Nat → Nat → Int64} {x : Int32} (ok : okMany (mV d)) (hx : x < 0 ∨ ¬ x < nI (nv (mV d) 1)) : OP kX7_isPromise yX7_isPromise 1 [.ref 65, .int x] d r J (some (.int (nI 0))) d r J := by
  refine op_of pl_X7_isPromise (Nat.le_of_ble_eq_true rfl) ?_
  refine sw_iload_n (i := 1) dX7_isPromise_0 rfl rfl ?_
  refine sw_ic 0 dX7_isPromise_1 ?_
  refine sw_aload_n (i := 0) dX7_isPromise_2 rfl rfl ?_
  refine sx_getR (q := 66) f_X7_7 (by decide) kr_65_0 dX7_isPromise_3 ?_
  refine sw_ic 1 dX7_isPromise_6 ?_
  refine sx_ialdE (1) (nI (nv (mV d) 1)) ((mV_in d (by omega) (by omega)).trans ok.1) rfl rfl (by omega) dX7_isPromise_7 ?_
  refine sw_ic 1 dX7_isPromise_8 ?_
  refine sw_ins (pc2 := 9) rfl rfl ?_
  refine sw_isub dX7_isPromise_9 ?_
  refine px_Sx ms_X7_39 (A0_X7_in (in_m ok.2 hx)) rfl rfl (Nat.le_of_ble_eq_true rfl) (Nat.le_of_ble_eq_true rfl) (Nat.le_of_ble_eq_true rfl) dX7_isPromise_10 ?_
  exact sw_zreturnE rfl rfl rfl dX7_isPromise_13
set_option maxRecDepth 100000 in
set_option maxHeartbeats 4000000 in
theorem A1_X7_holds {d : Nat → Nat → Int32} {r : Nat → Nat → Option Nat} {J : Nat → Nat → Int64} : OP kX7_holds yX7_holds 0 [.ref 65, .int (nI 0)] d r J (some (.int (nI 1))) (d2 d 65 7 (nI 0)) r J := by
  refine op_of pl_X7_holds (Nat.le_of_ble_eq_true rfl) ?_
  refine sw_aload_n (i := 0) dX7_holds_0 rfl rfl ?_
  refine sw_iload_n (i := 1) dX7_holds_1 rfl rfl ?_
  refine sx_putI fp_X7_35 (by decide) kf_65_7 dX7_holds_2 ?_
  refine sw_iload_n (i := 1) dX7_holds_5 rfl rfl ?_
  refine sw_if_ne (tgt := 13) dX7_holds_6 rfl (fun h9 => absurd (by decide) h9) (fun _ => ?_)
  refine sw_ic 1 dX7_holds_9 ?_
  refine sw_goto (tgt := 14) dX7_holds_10 rfl ?_
  refine sw_ins (pc2 := 14) rfl rfl ?_
  exact sw_zreturnE rfl rfl rfl dX7_holds_14
set_option maxRecDepth 100000 in
set_option maxHeartbeats 4000000 in
theorem A0_X7_holds {d : Nat → Nat → Int32} {r : Nat → Nat → Option Nat} {J : Nat → Nat → Int64} {k : Nat} (h1 : 1 ≤ k) (h2 : k ≤ 2) : OP kX7_holds yX7_holds 0 [.ref 65, .int (nI k)] d r J (some (.int (nI 0))) (d2 d 65 7 (nI k)) r J := by
  refine op_of pl_X7_holds (Nat.le_of_ble_eq_true rfl) ?_
  refine sw_aload_n (i := 0) dX7_holds_0 rfl rfl ?_
  refine sw_iload_n (i := 1) dX7_holds_1 rfl rfl ?_
  refine sx_putI fp_X7_35 (by decide) kf_65_7 dX7_holds_2 ?_
  refine sw_iload_n (i := 1) dX7_holds_5 rfl rfl ?_
  refine sw_if_ne (tgt := 13) dX7_holds_6 rfl (fun _ => ?_) (fun h9 => absurd h9 (nI_ne0 (by omega) (by omega)))
  refine sw_ic 0 dX7_holds_13 ?_
  exact sw_zreturnE rfl rfl rfl dX7_holds_14
set_option maxRecDepth 100000 in
set_option maxHeartbeats 4000000 in
theorem A_X7_of {d : Nat → Nat → Int32} {r : Nat → Nat → Option Nat} {J : Nat → Nat → Int64} {q c : Nat} (hq : q < 8) (hc : c < 4) : OP kX7_of yX7_of 0 [.ref 65, .int (nI q), .int (nI c)] d r J (some (.int (mV d (51 + (q * 4 + c))))) d r J := by
  refine op_of pl_X7_of (Nat.le_of_ble_eq_true rfl) ?_
  refine sw_aload_n (i := 0) dX7_of_0 rfl rfl ?_
  refine sx_getR (q := 66) f_X7_7 (by decide) kr_65_0 dX7_of_1 ?_
  refine sw_bi 51 dX7_of_4 (by decide +kernel) ?_
  refine sw_ic 4 dX7_of_6 ?_
  refine sw_iload_n (i := 1) dX7_of_7 rfl rfl ?_
  refine sw_imul dX7_of_8 ?_
  refine sw_iadd dX7_of_9 ?_
  refine sw_ins (pc2 := 10) rfl rfl ?_
  refine sw_iload_n (i := 2) dX7_of_10 rfl rfl ?_
  refine sw_iadd dX7_of_11 ?_
  refine sx_ialdE ((51 + (4 * q)) + c) (mV d (51 + (q * 4 + c))) (mV_in d (by omega) (by omega)) rfl (by simp only [nI_add, pk_mul]) (by omega) dX7_of_12 ?_
  exact sw_ireturn rfl dX7_of_13
set_option maxRecDepth 100000 in
set_option maxHeartbeats 4000000 in
theorem A_X7_capsOf {d : Nat → Nat → Int32} {r : Nat → Nat → Option Nat} {J : Nat → Nat → Int64} {a c : Nat} (ha : a < 8) (hc : c < 4) : OP kX7_capsOf yX7_capsOf 0 [.ref 65, .int (nI a), .int (nI c)] d r J (some (.int (mV d (19 + (a * 4 + c))))) d r J := by
  refine op_of pl_X7_capsOf (Nat.le_of_ble_eq_true rfl) ?_
  refine sw_aload_n (i := 0) dX7_capsOf_0 rfl rfl ?_
  refine sx_getR (q := 66) f_X7_7 (by decide) kr_65_0 dX7_capsOf_1 ?_
  refine sw_bi 19 dX7_capsOf_4 (by decide +kernel) ?_
  refine sw_ic 4 dX7_capsOf_6 ?_
  refine sw_iload_n (i := 1) dX7_capsOf_7 rfl rfl ?_
  refine sw_imul dX7_capsOf_8 ?_
  refine sw_iadd dX7_capsOf_9 ?_
  refine sw_ins (pc2 := 10) rfl rfl ?_
  refine sw_iload_n (i := 2) dX7_capsOf_10 rfl rfl ?_
  refine sw_iadd dX7_capsOf_11 ?_
  refine sx_ialdE ((19 + (4 * a)) + c) (mV d (19 + (a * 4 + c))) (mV_in d (by omega) (by omega)) rfl (by simp only [nI_add, pk_mul]) (by omega) dX7_capsOf_12 ?_
  exact sw_ireturn rfl dX7_capsOf_13
set_option maxRecDepth 100000 in
set_option maxHeartbeats 4000000 in
theorem A_X7_worthOf {d : Nat → Nat → Int32} {r : Nat → Nat → Option Nat} {J : Nat → Nat → Int64} {a : Nat} (ha : a < 8) : OP kX7_worthOf yX7_worthOf 1 [.ref 65, .int (nI a)] d r J (some (.int (pw (mV d) a))) d r J := by
  refine op_of pl_X7_worthOf (Nat.le_of_ble_eq_true rfl) ?_
  refine sw_ic 0 dX7_worthOf_0 ?_
  refine sw_istore_n (i := 2) dX7_worthOf_1 rfl (Nat.le_of_ble_eq_true rfl) rfl ?_
  refine sw_lo (lo2 := [some (.ref 65), some (.int _), some (.int _), none]) rfl ?_
  refine sw_ic 0 dX7_worthOf_2 ?_
  refine sw_istore_n (i := 3) dX7_worthOf_3 rfl (Nat.le_of_ble_eq_true rfl) rfl ?_
  refine sw_lo (lo2 := [some (.ref 65), some (.int _), some (.int _), some (.int _)]) rfl ?_
  refine sw_iload_n (i := 3) dX7_worthOf_4 rfl rfl ?_
  refine sw_ic 4 dX7_worthOf_5 ?_
  refine sw_ic_ge (tgt := 34) dX7_worthOf_6 rfl (fun h9 => absurd h9 (by decide)) (fun _ => ?_)
  refine sw_ins (pc2 := 9) rfl rfl ?_
  refine sw_iload_n (i := 2) dX7_worthOf_9 rfl rfl ?_
  refine sw_aload_n (i := 0) dX7_worthOf_10 rfl rfl ?_
  refine sw_iload_n (i := 1) dX7_worthOf_11 rfl rfl ?_
  refine sw_iload_n (i := 3) dX7_worthOf_12 rfl rfl ?_
  refine px_Vx mv_X7_50 (A_X7_capsOf (a := a) (c := 0) ha (by decide)) rfl rfl (Nat.le_of_ble_eq_true rfl) (Nat.le_of_ble_eq_true rfl) ko_65 (Nat.le_of_ble_eq_true rfl) dX7_worthOf_13 ?_
  refine sw_aload_n (i := 0) dX7_worthOf_16 rfl rfl ?_
  refine sx_getR (q := 66) f_X7_7 (by decide) kr_65_0 dX7_worthOf_17 ?_
  refine sw_bi 7 dX7_worthOf_20 (by decide +kernel) ?_
  refine sw_ins (pc2 := 22) rfl rfl ?_
  refine sw_iload_n (i := 3) dX7_worthOf_22 rfl rfl ?_
  refine sw_iadd dX7_worthOf_23 ?_
  refine sw_topE (v := nI 7) (by decide) ?_
  refine sx_ialdE (7) (mV d 7) (mV_in d (by omega) (by omega)) rfl rfl (by omega) dX7_worthOf_24 ?_
  refine sw_imul dX7_worthOf_25 ?_
  refine sw_iadd dX7_worthOf_26 ?_
  refine sw_istore_n (i := 2) dX7_worthOf_27 rfl (Nat.le_of_ble_eq_true rfl) rfl ?_
  refine sw_lo (lo2 := [some (.ref 65), some (.int _), some (.int _), some (.int _)]) rfl ?_
  refine sw_iinc (i := 3) (v := nI 1) dX7_worthOf_28 rfl (by decide) (Nat.le_of_ble_eq_true rfl) rfl ?_
  refine sw_lo (lo2 := [some (.ref 65), some (.int _), some (.int _), some (.int _)]) rfl ?_
  refine sw_goto (tgt := 4) dX7_worthOf_31 rfl ?_
  refine sw_ins (pc2 := 4) rfl rfl ?_
  refine sw_iload_n (i := 3) dX7_worthOf_4 rfl rfl ?_
  refine sw_ic 4 dX7_worthOf_5 ?_
  refine sw_ic_ge (tgt := 34) dX7_worthOf_6 rfl (fun h9 => absurd h9 (by decide)) (fun _ => ?_)
  refine sw_iload_n (i := 2) dX7_worthOf_9 rfl rfl ?_
  refine sw_aload_n (i := 0) dX7_worthOf_10 rfl rfl ?_
  refine sw_iload_n (i := 1) dX7_worthOf_11 rfl rfl ?_
  refine sw_iload_n (i := 3) dX7_worthOf_12 rfl rfl ?_
  refine px_Vx mv_X7_50 (A_X7_capsOf (a := a) (c := 1) ha (by decide)) rfl rfl (Nat.le_of_ble_eq_true rfl) (Nat.le_of_ble_eq_true rfl) ko_65 (Nat.le_of_ble_eq_true rfl) dX7_worthOf_13 ?_
  refine sw_ins (pc2 := 16) rfl rfl ?_
  refine sw_aload_n (i := 0) dX7_worthOf_16 rfl rfl ?_
  refine sx_getR (q := 66) f_X7_7 (by decide) kr_65_0 dX7_worthOf_17 ?_
  refine sw_bi 7 dX7_worthOf_20 (by decide +kernel) ?_
  refine sw_iload_n (i := 3) dX7_worthOf_22 rfl rfl ?_
  refine sw_iadd dX7_worthOf_23 ?_
  refine sw_topE (v := nI 8) (by decide) ?_
  refine sx_ialdE (8) (mV d 8) (mV_in d (by omega) (by omega)) rfl rfl (by omega) dX7_worthOf_24 ?_
  refine sw_imul dX7_worthOf_25 ?_
  refine sw_iadd dX7_worthOf_26 ?_
  refine sw_ins (pc2 := 27) rfl rfl ?_
  refine sw_istore_n (i := 2) dX7_worthOf_27 rfl (Nat.le_of_ble_eq_true rfl) rfl ?_
  refine sw_lo (lo2 := [some (.ref 65), some (.int _), some (.int _), some (.int _)]) rfl ?_
  refine sw_iinc (i := 3) (v := nI 2) dX7_worthOf_28 rfl (by decide) (Nat.le_of_ble_eq_true rfl) rfl ?_
  refine sw_lo (lo2 := [some (.ref 65), some (.int _), some (.int _), some (.int _)]) rfl ?_
  refine sw_goto (tgt := 4) dX7_worthOf_31 rfl ?_
  refine sw_iload_n (i := 3) dX7_worthOf_4 rfl rfl ?_
  refine sw_ic 4 dX7_worthOf_5 ?_
  refine sw_ic_ge (tgt := 34) dX7_worthOf_6 rfl (fun h9 => absurd h9 (by decide)) (fun _ => ?_)
  refine sw_iload_n (i := 2) dX7_worthOf_9 rfl rfl ?_
  refine sw_aload_n (i := 0) dX7_worthOf_10 rfl rfl ?_
  refine sw_ins (pc2 := 11) rfl rfl ?_
  refine sw_iload_n (i := 1) dX7_worthOf_11 rfl rfl ?_
  refine sw_iload_n (i := 3) dX7_worthOf_12 rfl rfl ?_
  refine px_Vx mv_X7_50 (A_X7_capsOf (a := a) (c := 2) ha (by decide)) rfl rfl (Nat.le_of_ble_eq_true rfl) (Nat.le_of_ble_eq_true rfl) ko_65 (Nat.le_of_ble_eq_true rfl) dX7_worthOf_13 ?_
  refine sw_aload_n (i := 0) dX7_worthOf_16 rfl rfl ?_
  refine sx_getR (q := 66) f_X7_7 (by decide) kr_65_0 dX7_worthOf_17 ?_
  refine sw_bi 7 dX7_worthOf_20 (by decide +kernel) ?_
  refine sw_iload_n (i := 3) dX7_worthOf_22 rfl rfl ?_
  refine sw_iadd dX7_worthOf_23 ?_
  refine sw_topE (v := nI 9) (by decide) ?_
  refine sw_ins (pc2 := 24) rfl rfl ?_
  refine sx_ialdE (9) (mV d 9) (mV_in d (by omega) (by omega)) rfl rfl (by omega) dX7_worthOf_24 ?_
  refine sw_imul dX7_worthOf_25 ?_
  refine sw_iadd dX7_worthOf_26 ?_
  refine sw_istore_n (i := 2) dX7_worthOf_27 rfl (Nat.le_of_ble_eq_true rfl) rfl ?_
  refine sw_lo (lo2 := [some (.ref 65), some (.int _), some (.int _), some (.int _)]) rfl ?_
  refine sw_iinc (i := 3) (v := nI 3) dX7_worthOf_28 rfl (by decide) (Nat.le_of_ble_eq_true rfl) rfl ?_
  refine sw_lo (lo2 := [some (.ref 65), some (.int _), some (.int _), some (.int _)]) rfl ?_
  refine sw_goto (tgt := 4) dX7_worthOf_31 rfl ?_
  refine sw_iload_n (i := 3) dX7_worthOf_4 rfl rfl ?_
  refine sw_ic 4 dX7_worthOf_5 ?_
  refine sw_ins (pc2 := 6) rfl rfl ?_
  refine sw_ic_ge (tgt := 34) dX7_worthOf_6 rfl (fun h9 => absurd h9 (by decide)) (fun _ => ?_)
  refine sw_iload_n (i := 2) dX7_worthOf_9 rfl rfl ?_
  refine sw_aload_n (i := 0) dX7_worthOf_10 rfl rfl ?_
  refine sw_iload_n (i := 1) dX7_worthOf_11 rfl rfl ?_
  refine sw_iload_n (i := 3) dX7_worthOf_12 rfl rfl ?_
  refine px_Vx mv_X7_50 (A_X7_capsOf (a := a) (c := 3) ha (by decide)) rfl rfl (Nat.le_of_ble_eq_true rfl) (Nat.le_of_ble_eq_true rfl) ko_65 (Nat.le_of_ble_eq_true rfl) dX7_worthOf_13 ?_
  refine sw_aload_n (i := 0) dX7_worthOf_16 rfl rfl ?_
  refine sx_getR (q := 66) f_X7_7 (by decide) kr_65_0 dX7_worthOf_17 ?_
  refine sw_ins (pc2 := 20) rfl rfl ?_
  refine sw_bi 7 dX7_worthOf_20 (by decide +kernel) ?_
  refine sw_iload_n (i := 3) dX7_worthOf_22 rfl rfl ?_
  refine sw_iadd dX7_worthOf_23 ?_
  refine sw_topE (v := nI 10) (by decide) ?_
  refine sx_ialdE (10) (mV d 10) (mV_in d (by omega) (by omega)) rfl rfl (by omega) dX7_worthOf_24 ?_
  refine sw_imul dX7_worthOf_25 ?_
  refine sw_iadd dX7_worthOf_26 ?_
  refine sw_istore_n (i := 2) dX7_worthOf_27 rfl (Nat.le_of_ble_eq_true rfl) rfl ?_
  refine sw_lo (lo2 := [some (.ref 65), some (.int _), some (.int _), some (.int _)]) rfl ?_
  refine sw_iinc (i := 3) (v := nI 4) dX7_worthOf_28 rfl (by decide) (Nat.le_of_ble_eq_true rfl) rfl ?_
  refine sw_lo (lo2 := [some (.ref 65), some (.int _), some (.int _), some (.int _)]) rfl ?_
  refine sw_ins (pc2 := 31) rfl rfl ?_
  refine sw_goto (tgt := 4) dX7_worthOf_31 rfl ?_
  refine sw_iload_n (i := 3) dX7_worthOf_4 rfl rfl ?_
  refine sw_ic 4 dX7_worthOf_5 ?_
  refine sw_ic_ge (tgt := 34) dX7_worthOf_6 rfl (fun _ => ?_) (fun h9 => absurd (by decide) h9)
  refine sw_iload_n (i := 2) dX7_worthOf_34 rfl rfl ?_
  exact sw_ireturn rfl dX7_worthOf_35
set_option maxRecDepth 100000 in
set_option maxHeartbeats 4000000 in
theorem A_X7_less {d : Nat → Nat → Int32} {r : Nat → Nat → Option Nat} {J : Nat → Nat → Int64} {x y9 : Int32} : OP kX7_less yX7_less 0 [.int x, .int y9] d r J (some (.int (if x < y9 then x else y9))) d r J := by
  refine op_of pl_X7_less (Nat.le_of_ble_eq_true rfl) ?_
  by_cases c : x < y9
  ·
    refine sw_iload_n (i := 0) dX7_less_0 rfl rfl ?_
    refine sw_iload_n (i := 1) dX7_less_1 rfl rfl ?_
    refine sw_ic_ge (tgt := 9) dX7_less_2 rfl (fun h9 => absurd h9 (Int32.not_le.mpr c)) (fun _ => ?_)
    refine sw_iload_n (i := 0) dX7_less_5 rfl rfl ?_
    refine sw_goto (tgt := 10) dX7_less_6 rfl ?_
    exact sw_ireturnE (if_pos c).symm rfl dX7_less_10
  ·
    refine sw_iload_n (i := 0) dX7_less_0 rfl rfl ?_
    refine sw_iload_n (i := 1) dX7_less_1 rfl rfl ?_
    refine sw_ic_ge (tgt := 9) dX7_less_2 rfl (fun _ => ?_) (fun h9 => absurd (Int32.not_lt.mp c) h9)
    refine sw_iload_n (i := 1) dX7_less_9 rfl rfl ?_
    exact sw_ireturnE (if_neg c).symm rfl dX7_less_10
theorem min_nI {a b : Nat} (ha : a < 2 ^ 31) (hb : b < 2 ^ 31) : (if nI a < nI b then nI a else nI b) = nI (min a b) := by
  by_cases c : a < b
  · rw [if_pos (nI_lt c hb), Nat.min_eq_left (by omega)]
  · rw [if_neg (nI_nlt (by omega) ha), Nat.min_eq_right (by omega)]
set_option maxRecDepth 100000 in
set_option maxHeartbeats 4000000 in
theorem A_X7_most {d : Nat → Nat → Int32} {r : Nat → Nat → Option Nat} {J : Nat → Nat → Int64} {a c s : Nat} (okc : okCaps (mV d)) (okw : okWorth (mV d)) (ha : a < 8) (hc : c < 4) (hs : s ≤ 99) : OP kX7_most yX7_most 1 [.ref 65, .int (nI a), .int (nI c), .int (nI s)] d r J (some (.int (nI (min (cp (mV d) a c) (s / wt (mV d) c))))) d r J := by
  refine op_of pl_X7_most (Nat.le_of_ble_eq_true rfl) ?_
  have c1 := cp_le okc ha hc
  have w1 := okw c hc
  have w2 : 1 ≤ wt (mV d) c := w1.2.1
  have w3 : wt (mV d) c ≤ 9 := w1.2.2
  have hdv : s / wt (mV d) c ≤ s := Nat.div_le_self _ _
  have g0 := A_X7_capsOf (d := d) (r := r) (J := J) ha hc
  rw [okc.1 (a * 4 + c) (by omega)] at g0
  have g1 := A_X7_less (d := d) (r := r) (J := J) (x := nI (cp (mV d) a c)) (y9 := nI (s / wt (mV d) c))
  rw [min_nI (by omega) (by omega)] at g1
  refine sw_aload_n (i := 0) dX7_most_0 rfl rfl ?_
  refine sw_iload_n (i := 1) dX7_most_1 rfl rfl ?_
  refine sw_iload_n (i := 2) dX7_most_2 rfl rfl ?_
  refine px_Vx mv_X7_50 g0 rfl rfl (Nat.le_of_ble_eq_true rfl) (Nat.le_of_ble_eq_true rfl) ko_65 (Nat.le_of_ble_eq_true rfl) dX7_most_3 ?_
  refine sw_iload_n (i := 3) dX7_most_6 rfl rfl ?_
  refine sw_aload_n (i := 0) dX7_most_7 rfl rfl ?_
  refine sx_getR (q := 66) f_X7_7 (by decide) kr_65_0 dX7_most_8 ?_
  refine sw_ins (pc2 := 11) rfl rfl ?_
  refine sw_bi 7 dX7_most_11 (by decide +kernel) ?_
  refine sw_iload_n (i := 2) dX7_most_13 rfl rfl ?_
  refine sw_iadd dX7_most_14 ?_
  refine sx_ialdE (7 + c) (nI (wt (mV d) c)) ((mV_in d (by omega) (by omega)).trans w1.1) rfl (by simp only [nI_add, pk_mul]) (by omega) dX7_most_15 ?_
  refine sw_idiv (nI_ne0 (by omega) (by omega)) dX7_most_16 ?_
  refine sw_topE (v := nI (s / wt (mV d) c)) (pk_div (by omega) (by omega) (by omega)) ?_
  refine px_Sx ms_X7_54 g1 rfl rfl (Nat.le_of_ble_eq_true rfl) (Nat.le_of_ble_eq_true rfl) (Nat.le_of_ble_eq_true rfl) dX7_most_17 ?_
  exact sw_ireturn rfl dX7_most_20
set_option maxRecDepth 100000 in
set_option maxHeartbeats 4000000 in
theorem A_X7_whereIs {d : Nat → Nat → Int32} {r : Nat → Nat → Option Nat} {J : Nat → Nat → Int64} {a n : Nat} (ok : okPath (mV d)) (ha : a < 8) (hn : n < 2 ^ 31) : OP kX7_whereIs yX7_whereIs 0 [.ref 65, .int (nI a), .int (nI n)] d r J (some (.int (nI (alg (mV d) a n)))) d r J := by
  refine op_of pl_X7_whereIs (Nat.le_of_ble_eq_true rfl) ?_
  have L : ∀ i, i ≤ n → SW yX7_whereIs cX7_whereIs 5 (some .int) [] 0 none 5 [some (.ref 65), some (.int (nI a)), some (.int (nI n)), some (.int (nI (alg (mV d) a i))), some (.int (nI i))] [] 75 (W0 d r J) 0 0 (.inl (some (.int (nI (alg (mV d) a n))))) 75 (W0 d r J) := by
    refine am_loop n ?_ ?_
    ·
      refine sw_iload (i := 4) dX7_whereIs_5 rfl ?_
      refine sw_iload_n (i := 2) dX7_whereIs_7 rfl rfl ?_
      refine sw_ic_ge (tgt := 27) dX7_whereIs_8 rfl (fun _ => ?_) (fun h9 => absurd (nI_le (Nat.le_refl _) hn) h9)
      refine sw_iload_n (i := 3) dX7_whereIs_27 rfl rfl ?_
      exact sw_ireturn rfl dX7_whereIs_28
    · intro i hi ih
      have hl := alg_lt8 ok ha i
      refine sw_iload (i := 4) dX7_whereIs_5 rfl ?_
      refine sw_iload_n (i := 2) dX7_whereIs_7 rfl rfl ?_
      refine sw_ic_ge (tgt := 27) dX7_whereIs_8 rfl (fun h9 => absurd h9 (nI_ge hi hn)) (fun _ => ?_)
      refine sw_aload_n (i := 0) dX7_whereIs_11 rfl rfl ?_
      refine sx_getR (q := 66) f_X7_7 (by decide) kr_65_0 dX7_whereIs_12 ?_
      refine sw_bi 11 dX7_whereIs_15 (by decide +kernel) ?_
      refine sw_iload_n (i := 3) dX7_whereIs_17 rfl rfl ?_
      refine sw_ins (pc2 := 18) rfl rfl ?_
      refine sw_iadd dX7_whereIs_18 ?_
      refine sx_ialdE (11 + (alg (mV d) a i)) (nI (pth (mV d) (alg (mV d) a i))) ((mV_in d (by omega) (by omega)).trans (ok.1 _ hl).1) rfl (by simp only [nI_add, pk_mul]) (by omega) dX7_whereIs_19 ?_
      refine sw_istore_n (i := 3) dX7_whereIs_20 rfl (Nat.le_of_ble_eq_true rfl) rfl ?_
      refine sw_lo (lo2 := [some (.ref 65), some (.int _), some (.int _), some (.int _), some (.int _)]) rfl ?_
      refine sw_iinc (i := 4) (v := nI (i + 1)) dX7_whereIs_21 rfl (nI_1 _) (Nat.le_of_ble_eq_true rfl) rfl ?_
      refine sw_lo (lo2 := [some (.ref 65), some (.int _), some (.int _), some (.int _), some (.int _)]) rfl ?_
      refine sw_goto (tgt := 5) dX7_whereIs_24 rfl ?_
      exact ih
  refine sw_iload_n (i := 1) dX7_whereIs_0 rfl rfl ?_
  refine sw_istore_n (i := 3) dX7_whereIs_1 rfl (Nat.le_of_ble_eq_true rfl) rfl ?_
  refine sw_lo (lo2 := [some (.ref 65), some (.int _), some (.int _), some (.int _), none]) rfl ?_
  refine sw_ic 0 dX7_whereIs_2 ?_
  refine sw_istore (i := 4) dX7_whereIs_3 (Nat.le_of_ble_eq_true rfl) rfl ?_
  refine sw_lo (lo2 := [some (.ref 65), some (.int _), some (.int _), some (.int _), some (.int _)]) rfl ?_
  exact L 0 (Nat.zero_le _)
set_option maxRecDepth 100000 in
set_option maxHeartbeats 4000000 in
theorem A_X7_circle {d : Nat → Nat → Int32} {r : Nat → Nat → Option Nat} {J : Nat → Nat → Int64} {a : Nat} (ok : okPath (mV d)) (ha : a < 8) : OP kX7_circle yX7_circle 1 [.ref 65, .int (nI a)] d r J (some (.int (nI (crc (mV d) a)))) d r J := by
  refine op_of pl_X7_circle (Nat.le_of_ble_eq_true rfl) ?_
  obtain ⟨c1, c2, c3, c4⟩ := crc_spec ok ha
  have L : ∀ i, i ≤ crc (mV d) a - 1 → SW yX7_circle cX7_circle 3 (some .int) [] 1 none 2 [some (.ref 65), some (.int (nI a)), some (.int (nI (i + 1)))] [] 75 (W0 d r J) 0 0 (.inl (some (.int (nI (crc (mV d) a))))) 75 (W0 d r J) := by
    refine am_loop (crc (mV d) a - 1) ?_ ?_
    · rw [show crc (mV d) a - 1 + 1 = crc (mV d) a by omega]
      refine sw_aload_n (i := 0) dX7_circle_2 rfl rfl ?_
      refine sw_iload_n (i := 1) dX7_circle_3 rfl rfl ?_
      refine sw_iload_n (i := 2) dX7_circle_4 rfl rfl ?_
      refine px_Vx mv_X7_67 (A_X7_whereIs (a := a) (n := crc (mV d) a) ok ha (by omega)) rfl rfl (Nat.le_of_ble_eq_true rfl) (Nat.le_of_ble_eq_true rfl) ko_65 (Nat.le_of_ble_eq_true rfl) dX7_circle_5 ?_
      refine sw_iload_n (i := 1) dX7_circle_8 rfl rfl ?_
      refine sw_ic_eq (tgt := 18) dX7_circle_9 rfl (fun _ => ?_) (fun h9 => absurd (by rw [c1]) h9)
      refine sw_iload_n (i := 2) dX7_circle_18 rfl rfl ?_
      refine sw_ins (pc2 := 19) rfl rfl ?_
      exact sw_ireturn rfl dX7_circle_19
    · intro i hi ih
      have hl := alg_lt8 ok ha (i + 1)
      have hne := c4 (i + 1) (by omega) (by omega)
      refine sw_aload_n (i := 0) dX7_circle_2 rfl rfl ?_
      refine sw_iload_n (i := 1) dX7_circle_3 rfl rfl ?_
      refine sw_iload_n (i := 2) dX7_circle_4 rfl rfl ?_
      refine px_Vx mv_X7_67 (A_X7_whereIs (a := a) (n := i + 1) ok ha (by omega)) rfl rfl (Nat.le_of_ble_eq_true rfl) (Nat.le_of_ble_eq_true rfl) ko_65 (Nat.le_of_ble_eq_true rfl) dX7_circle_5 ?_
      refine sw_iload_n (i := 1) dX7_circle_8 rfl rfl ?_
      refine sw_ic_eq (tgt := 18) dX7_circle_9 rfl (fun h9 => absurd h9 (fun q => hne ((nI_eq (by omega) (by omega)).mp q))) (fun _ => ?_)
      refine sw_iinc (i := 2) (v := nI (i + 1 + 1)) dX7_circle_12 rfl (nI_1 _) (Nat.le_of_ble_eq_true rfl) rfl ?_
      refine sw_lo (lo2 := [some (.ref 65), some (.int _), some (.int _)]) rfl ?_
      refine sw_ins (pc2 := 15) rfl rfl ?_
      refine sw_goto (tgt := 2) dX7_circle_15 rfl ?_
      exact ih
  refine sw_ic 1 dX7_circle_0 ?_
  refine sw_istore_n (i := 2) dX7_circle_1 rfl (Nat.le_of_ble_eq_true rfl) rfl ?_
  refine sw_lo (lo2 := [some (.ref 65), some (.int _), some (.int _)]) rfl ?_
  exact L 0 (Nat.zero_le _)
