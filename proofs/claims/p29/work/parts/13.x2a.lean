/-! THE ISLAND'S READS, 1: isIslander, isColour, isPromise, capsOf, partOf, worthOf, makeWorth, leadsTo, canStorm, purseWorth, allCaps, allWorth, along (own work, written by wip/tools) -/
set_option maxRecDepth 100000 in
set_option maxHeartbeats 4000000 in
theorem A1_X2_isIslander {d : Nat → Nat → Int32} {r : Nat → Nat → Option Nat} {J : Nat → Nat → Int64} {a : Nat} (ha : a < 8) : OP kX2_isIslander yX2_isIslander 0 [.int (nI a)] d r J (some (.int (nI 1))) d r J := by
  refine op_of pl_X2_isIslander (Nat.le_of_ble_eq_true rfl) ?_
  refine sw_iload_n (i := 0) dX2_isIslander_0 rfl rfl ?_
  refine sw_if_lt (tgt := 14) dX2_isIslander_1 rfl (fun h9 => absurd h9 (nI_pos (by omega))) (fun _ => ?_)
  refine sw_iload_n (i := 0) dX2_isIslander_4 rfl rfl ?_
  refine sw_bi 8 dX2_isIslander_5 (by decide +kernel) ?_
  refine sw_ic_ge (tgt := 14) dX2_isIslander_7 rfl (fun h9 => absurd h9 (nI_ge ha (by decide))) (fun _ => ?_)
  refine sw_ic 1 dX2_isIslander_10 ?_
  refine sw_goto (tgt := 15) dX2_isIslander_11 rfl ?_
  refine sw_ins (pc2 := 15) rfl rfl ?_
  exact sw_zreturnE rfl rfl rfl dX2_isIslander_15
set_option maxRecDepth 100000 in
set_option maxHeartbeats 4000000 in
theorem A0_X2_isIslander {d : Nat → Nat → Int32} {r : Nat → Nat → Option Nat} {J : Nat → Nat → Int64} {x : Int32} (h : x < 0 ∨ ¬ x < nI 8) : OP kX2_isIslander yX2_isIslander 0 [.int x] d r J (some (.int (nI 0))) d r J := by
  refine op_of pl_X2_isIslander (Nat.le_of_ble_eq_true rfl) ?_
  rcases (Classical.em (x < 0)) with h | h1
  ·
    refine sw_iload_n (i := 0) dX2_isIslander_0 rfl rfl ?_
    refine sw_if_lt (tgt := 14) dX2_isIslander_1 rfl (fun _ => ?_) (fun h9 => absurd h h9)
    refine sw_ic 0 dX2_isIslander_14 ?_
    exact sw_zreturnE rfl rfl rfl dX2_isIslander_15
  ·
    refine sw_iload_n (i := 0) dX2_isIslander_0 rfl rfl ?_
    refine sw_if_lt (tgt := 14) dX2_isIslander_1 rfl (fun h9 => absurd h9 h1) (fun _ => ?_)
    refine sw_iload_n (i := 0) dX2_isIslander_4 rfl rfl ?_
    refine sw_bi 8 dX2_isIslander_5 (by decide +kernel) ?_
    refine sw_ic_ge (tgt := 14) dX2_isIslander_7 rfl (fun _ => ?_) (fun h9 => absurd (Int32.not_lt.mp (h.resolve_left h1)) h9)
    refine sw_ic 0 dX2_isIslander_14 ?_
    exact sw_zreturnE rfl rfl rfl dX2_isIslander_15
set_option maxRecDepth 100000 in
set_option maxHeartbeats 4000000 in
theorem A1_X2_isColour {d : Nat → Nat → Int32} {r : Nat → Nat → Option Nat} {J : Nat → Nat → Int64} {a : Nat} (ha : a < 4) : OP kX2_isColour yX2_isColour 0 [.int (nI a)] d r J (some (.int (nI 1))) d r J := by
  refine op_of pl_X2_isColour (Nat.le_of_ble_eq_true rfl) ?_
  refine sw_iload_n (i := 0) dX2_isColour_0 rfl rfl ?_
  refine sw_if_lt (tgt := 13) dX2_isColour_1 rfl (fun h9 => absurd h9 (nI_pos (by omega))) (fun _ => ?_)
  refine sw_iload_n (i := 0) dX2_isColour_4 rfl rfl ?_
  refine sw_ic 4 dX2_isColour_5 ?_
  refine sw_ic_ge (tgt := 13) dX2_isColour_6 rfl (fun h9 => absurd h9 (nI_ge ha (by decide))) (fun _ => ?_)
  refine sw_ic 1 dX2_isColour_9 ?_
  refine sw_goto (tgt := 14) dX2_isColour_10 rfl ?_
  refine sw_ins (pc2 := 14) rfl rfl ?_
  exact sw_zreturnE rfl rfl rfl dX2_isColour_14
set_option maxRecDepth 100000 in
set_option maxHeartbeats 4000000 in
theorem A0_X2_isColour {d : Nat → Nat → Int32} {r : Nat → Nat → Option Nat} {J : Nat → Nat → Int64} {x : Int32} (h : x < 0 ∨ ¬ x < nI 4) : OP kX2_isColour yX2_isColour 0 [.int x] d r J (some (.int (nI 0))) d r J := by
  refine op_of pl_X2_isColour (Nat.le_of_ble_eq_true rfl) ?_
  rcases (Classical.em (x < 0)) with h | h1
  ·
    refine sw_iload_n (i := 0) dX2_isColour_0 rfl rfl ?_
    refine sw_if_lt (tgt := 13) dX2_isColour_1 rfl (fun _ => ?_) (fun h9 => absurd h h9)
    refine sw_ic 0 dX2_isColour_13 ?_
    exact sw_zreturnE rfl rfl rfl dX2_isColour_14
  ·
    refine sw_iload_n (i := 0) dX2_isColour_0 rfl rfl ?_
    refine sw_if_lt (tgt := 13) dX2_isColour_1 rfl (fun h9 => absurd h9 h1) (fun _ => ?_)
    refine sw_iload_n (i := 0) dX2_isColour_4 rfl rfl ?_
    refine sw_ic 4 dX2_isColour_5 ?_
    refine sw_ic_ge (tgt := 13) dX2_isColour_6 rfl (fun _ => ?_) (fun h9 => absurd (Int32.not_lt.mp (h.resolve_left h1)) h9)
    refine sw_ic 0 dX2_isColour_13 ?_
    exact sw_zreturnE rfl rfl rfl dX2_isColour_14
set_option maxRecDepth 100000 in
set_option maxHeartbeats 4000000 in
theorem A1_X2_isPromise {d : Nat → Nat → Int32} {r : Nat → Nat → Option Nat} {J : Nat → Nat → Int64} {b a : Nat} (hb : isB b) (ok : okMany (cV d b)) (ha : a < nv (cV d b) 1) : OP kX2_isPromise yX2_isPromise 0 [.ref b, .int (nI a)] d r J (some (.int (nI 1))) d r J := by
  refine op_of pl_X2_isPromise (Nat.le_of_ble_eq_true rfl) ?_
  have okm := ok.2
  refine sw_iload_n (i := 1) dX2_isPromise_0 rfl rfl ?_
  refine sw_if_lt (tgt := 25) dX2_isPromise_1 rfl (fun h9 => absurd h9 (nI_pos (by omega))) (fun _ => ?_)
  refine sw_iload_n (i := 1) dX2_isPromise_4 rfl rfl ?_
  refine sw_aload_n (i := 0) dX2_isPromise_5 rfl rfl ?_
  refine sx_getIE (nI (nv (cV d b) 1)) ((cV_many d b).trans ok.1) f_X2_37 (kt_lt hb.1) (kF_B hb (j := 5) (by decide) (by decide)) dX2_isPromise_6 ?_
  refine sw_ic_ge (tgt := 25) dX2_isPromise_9 rfl (fun h9 => absurd h9 (nI_ge ha (by omega))) (fun _ => ?_)
  refine sw_aload_n (i := 0) dX2_isPromise_12 rfl rfl ?_
  refine sw_ins (pc2 := 13) rfl rfl ?_
  refine sx_getIE (nI (nv (cV d b) 1)) ((cV_many d b).trans ok.1) f_X2_37 (kt_lt hb.1) (kF_B hb (j := 5) (by decide) (by decide)) dX2_isPromise_13 ?_
  refine sw_bi 8 dX2_isPromise_16 (by decide +kernel) ?_
  refine sw_ic_gt (tgt := 25) dX2_isPromise_18 rfl (fun h9 => absurd h9 (nI_nlt okm (by decide))) (fun _ => ?_)
  refine sw_ic 1 dX2_isPromise_21 ?_
  refine sw_goto (tgt := 26) dX2_isPromise_22 rfl ?_
  exact sw_zreturnE rfl rfl rfl dX2_isPromise_26
set_option maxRecDepth 100000 in
set_option maxHeartbeats 4000000 in
theorem A0_X2_isPromise {d : Nat → Nat → Int32} {r : Nat → Nat → Option Nat} {J : Nat → Nat → Int64} {b : Nat} {x : Int32} (hb : isB b) (ok : okMany (cV d b)) (h : x < 0 ∨ ¬ x < nI (nv (cV d b) 1)) : OP kX2_isPromise yX2_isPromise 0 [.ref b, .int x] d r J (some (.int (nI 0))) d r J := by
  refine op_of pl_X2_isPromise (Nat.le_of_ble_eq_true rfl) ?_
  rcases (Classical.em (x < 0)) with h | h1
  ·
    refine sw_iload_n (i := 1) dX2_isPromise_0 rfl rfl ?_
    refine sw_if_lt (tgt := 25) dX2_isPromise_1 rfl (fun _ => ?_) (fun h9 => absurd h h9)
    refine sw_ic 0 dX2_isPromise_25 ?_
    exact sw_zreturnE rfl rfl rfl dX2_isPromise_26
  ·
    refine sw_iload_n (i := 1) dX2_isPromise_0 rfl rfl ?_
    refine sw_if_lt (tgt := 25) dX2_isPromise_1 rfl (fun h9 => absurd h9 h1) (fun _ => ?_)
    refine sw_iload_n (i := 1) dX2_isPromise_4 rfl rfl ?_
    refine sw_aload_n (i := 0) dX2_isPromise_5 rfl rfl ?_
    refine sx_getIE (nI (nv (cV d b) 1)) ((cV_many d b).trans ok.1) f_X2_37 (kt_lt hb.1) (kF_B hb (j := 5) (by decide) (by decide)) dX2_isPromise_6 ?_
    refine sw_ic_ge (tgt := 25) dX2_isPromise_9 rfl (fun _ => ?_) (fun h9 => absurd (Int32.not_lt.mp (h.resolve_left h1)) h9)
    refine sw_ic 0 dX2_isPromise_25 ?_
    refine sw_ins (pc2 := 26) rfl rfl ?_
    exact sw_zreturnE rfl rfl rfl dX2_isPromise_26
set_option maxRecDepth 100000 in
set_option maxHeartbeats 4000000 in
theorem A_X2_capsOf {d : Nat → Nat → Int32} {r : Nat → Nat → Option Nat} {J : Nat → Nat → Int64} {b a c : Nat} (hb : isB b) (ha : a < 8) (hc : c < 4) : OP kX2_capsOf yX2_capsOf 1 [.ref b, .int (nI a), .int (nI c)] d r J (some (.int (cV d b (19 + (a * 4 + c))))) d r J := by
  refine op_of pl_X2_capsOf (Nat.le_of_ble_eq_true rfl) ?_
  refine sw_iload_n (i := 1) dX2_capsOf_0 rfl rfl ?_
  refine px_Sx ms_X2_59 (A1_X2_isIslander (a := a) (by omega)) rfl rfl (Nat.le_of_ble_eq_true rfl) (Nat.le_of_ble_eq_true rfl) (Nat.le_of_ble_eq_true rfl) dX2_capsOf_1 ?_
  refine sw_if_eq (tgt := 27) dX2_capsOf_4 rfl (fun h9 => absurd h9 (by decide)) (fun _ => ?_)
  refine sw_iload_n (i := 2) dX2_capsOf_7 rfl rfl ?_
  refine px_Sx ms_X2_63 (A1_X2_isColour (a := c) (by omega)) rfl rfl (Nat.le_of_ble_eq_true rfl) (Nat.le_of_ble_eq_true rfl) (Nat.le_of_ble_eq_true rfl) dX2_capsOf_8 ?_
  refine sw_if_eq (tgt := 27) dX2_capsOf_11 rfl (fun h9 => absurd h9 (by decide)) (fun _ => ?_)
  refine sw_aload_n (i := 0) dX2_capsOf_14 rfl rfl ?_
  refine sw_ins (pc2 := 15) rfl rfl ?_
  refine sx_getR (q := b + 1) f_X2_9 (kt_lt hb.1) (kR_B hb (j := 0) (by decide)) dX2_capsOf_15 ?_
  refine sw_iload_n (i := 1) dX2_capsOf_18 rfl rfl ?_
  refine sw_ic 4 dX2_capsOf_19 ?_
  refine sw_imul dX2_capsOf_20 ?_
  refine sw_iload_n (i := 2) dX2_capsOf_21 rfl rfl ?_
  refine sw_iadd dX2_capsOf_22 ?_
  refine sx_ialdE ((a * 4) + c) (cV d b (19 + ((a * 4) + c))) (cV_caps d b (by omega) rfl) hb.2.1 (by simp only [nI_add, pk_mul]) (by omega) dX2_capsOf_23 ?_
  refine sw_goto (tgt := 28) dX2_capsOf_24 rfl ?_
  refine sw_ins (pc2 := 28) rfl rfl ?_
  exact sw_ireturn rfl dX2_capsOf_28
set_option maxRecDepth 100000 in
set_option maxHeartbeats 4000000 in
theorem A_X2_partOf {d : Nat → Nat → Int32} {r : Nat → Nat → Option Nat} {J : Nat → Nat → Int64} {b a c : Nat} (hb : isB b) (ok : okMany (cV d b)) (ha : a < nv (cV d b) 1) (hc : c < 4) : OP kX2_partOf yX2_partOf 1 [.ref b, .int (nI a), .int (nI c)] d r J (some (.int (cV d b (51 + (a * 4 + c))))) d r J := by
  refine op_of pl_X2_partOf (Nat.le_of_ble_eq_true rfl) ?_
  have okm := ok.2
  refine sw_aload_n (i := 0) dX2_partOf_0 rfl rfl ?_
  refine sw_iload_n (i := 1) dX2_partOf_1 rfl rfl ?_
  refine px_Vx mv_X2_91 (A1_X2_isPromise (a := a) hb ok (by omega)) rfl rfl (Nat.le_of_ble_eq_true rfl) (Nat.le_of_ble_eq_true rfl) (kO_B hb) (Nat.le_of_ble_eq_true rfl) dX2_partOf_2 ?_
  refine sw_if_eq (tgt := 30) dX2_partOf_5 rfl (fun h9 => absurd h9 (by decide)) (fun _ => ?_)
  refine sw_iload_n (i := 2) dX2_partOf_8 rfl rfl ?_
  refine sw_if_lt (tgt := 30) dX2_partOf_9 rfl (fun h9 => absurd h9 (nI_pos (by omega))) (fun _ => ?_)
  refine sw_iload_n (i := 2) dX2_partOf_12 rfl rfl ?_
  refine sw_ins (pc2 := 13) rfl rfl ?_
  refine sw_ic 4 dX2_partOf_13 ?_
  refine sw_ic_ge (tgt := 30) dX2_partOf_14 rfl (fun h9 => absurd h9 (nI_ge hc (by decide))) (fun _ => ?_)
  refine sw_aload_n (i := 0) dX2_partOf_17 rfl rfl ?_
  refine sx_getR (q := b + 5) f_X2_24 (kt_lt hb.1) (kR_B hb (j := 4) (by decide)) dX2_partOf_18 ?_
  refine sw_iload_n (i := 1) dX2_partOf_21 rfl rfl ?_
  refine sw_ic 4 dX2_partOf_22 ?_
  refine sw_imul dX2_partOf_23 ?_
  refine sw_iload_n (i := 2) dX2_partOf_24 rfl rfl ?_
  refine sw_ins (pc2 := 25) rfl rfl ?_
  refine sw_iadd dX2_partOf_25 ?_
  refine sx_ialdE ((a * 4) + c) (cV d b (51 + ((a * 4) + c))) (cV_part d b (by omega) rfl) hb.2.2.2.2.2 (by simp only [nI_add, pk_mul]) (by omega) dX2_partOf_26 ?_
  refine sw_goto (tgt := 31) dX2_partOf_27 rfl ?_
  exact sw_ireturn rfl dX2_partOf_31
set_option maxRecDepth 100000 in
set_option maxHeartbeats 4000000 in
theorem A_X2_worthOf {d : Nat → Nat → Int32} {r : Nat → Nat → Option Nat} {J : Nat → Nat → Int64} {b c : Nat} (hb : isB b) (hc : c < 4) : OP kX2_worthOf yX2_worthOf 1 [.ref b, .int (nI c)] d r J (some (.int (cV d b (7 + c)))) d r J := by
  refine op_of pl_X2_worthOf (Nat.le_of_ble_eq_true rfl) ?_
  refine sw_iload_n (i := 1) dX2_worthOf_0 rfl rfl ?_
  refine px_Sx ms_X2_63 (A1_X2_isColour (a := c) (by omega)) rfl rfl (Nat.le_of_ble_eq_true rfl) (Nat.le_of_ble_eq_true rfl) (Nat.le_of_ble_eq_true rfl) dX2_worthOf_1 ?_
  refine sw_if_eq (tgt := 16) dX2_worthOf_4 rfl (fun h9 => absurd h9 (by decide)) (fun _ => ?_)
  refine sw_aload_n (i := 0) dX2_worthOf_7 rfl rfl ?_
  refine sx_getR (q := b + 3) f_X2_18 (kt_lt hb.1) (kR_B hb (j := 2) (by decide)) dX2_worthOf_8 ?_
  refine sw_iload_n (i := 1) dX2_worthOf_11 rfl rfl ?_
  refine sx_ialdE (c) (cV d b (7 + (c))) (cV_worth d b (by omega) rfl) hb.2.2.2.1 rfl (by omega) dX2_worthOf_12 ?_
  refine sw_ins (pc2 := 13) rfl rfl ?_
  refine sw_goto (tgt := 17) dX2_worthOf_13 rfl ?_
  exact sw_ireturn rfl dX2_worthOf_17
set_option maxRecDepth 100000 in
set_option maxHeartbeats 4000000 in
theorem A_X2_makeWorth {d : Nat → Nat → Int32} {r : Nat → Nat → Option Nat} {J : Nat → Nat → Int64} {b c : Nat} {x : Int32} (hb : isB b) (hc : c < 4) : OP kX2_makeWorth yX2_makeWorth 1 [.ref b, .int (nI c), .int x] d r J none (d2 d (b + 3) c x) r J := by
  refine op_of pl_X2_makeWorth (Nat.le_of_ble_eq_true rfl) ?_
  refine sw_iload_n (i := 1) dX2_makeWorth_0 rfl rfl ?_
  refine px_Sx ms_X2_63 (A1_X2_isColour (a := c) (by omega)) rfl rfl (Nat.le_of_ble_eq_true rfl) (Nat.le_of_ble_eq_true rfl) (Nat.le_of_ble_eq_true rfl) dX2_makeWorth_1 ?_
  refine sw_if_eq (tgt := 14) dX2_makeWorth_4 rfl (fun h9 => absurd h9 (by decide)) (fun _ => ?_)
  refine sw_aload_n (i := 0) dX2_makeWorth_7 rfl rfl ?_
  refine sx_getR (q := b + 3) f_X2_18 (kt_lt hb.1) (kR_B hb (j := 2) (by decide)) dX2_makeWorth_8 ?_
  refine sw_iload_n (i := 1) dX2_makeWorth_11 rfl rfl ?_
  refine sw_iload_n (i := 2) dX2_makeWorth_12 rfl rfl ?_
  refine sw_ins (pc2 := 13) rfl rfl ?_
  refine sx_iast (c) hb.2.2.2.1 rfl (by omega) dX2_makeWorth_13 ?_
  exact sw_return rfl dX2_makeWorth_14
set_option maxRecDepth 100000 in
set_option maxHeartbeats 4000000 in
theorem A_X2_leadsTo {d : Nat → Nat → Int32} {r : Nat → Nat → Option Nat} {J : Nat → Nat → Int64} {b a : Nat} (hb : isB b) (ha : a < 8) : OP kX2_leadsTo yX2_leadsTo 1 [.ref b, .int (nI a)] d r J (some (.int (cV d b (11 + a)))) d r J := by
  refine op_of pl_X2_leadsTo (Nat.le_of_ble_eq_true rfl) ?_
  refine sw_iload_n (i := 1) dX2_leadsTo_0 rfl rfl ?_
  refine px_Sx ms_X2_59 (A1_X2_isIslander (a := a) (by omega)) rfl rfl (Nat.le_of_ble_eq_true rfl) (Nat.le_of_ble_eq_true rfl) (Nat.le_of_ble_eq_true rfl) dX2_leadsTo_1 ?_
  refine sw_if_eq (tgt := 16) dX2_leadsTo_4 rfl (fun h9 => absurd h9 (by decide)) (fun _ => ?_)
  refine sw_aload_n (i := 0) dX2_leadsTo_7 rfl rfl ?_
  refine sx_getR (q := b + 4) f_X2_21 (kt_lt hb.1) (kR_B hb (j := 3) (by decide)) dX2_leadsTo_8 ?_
  refine sw_iload_n (i := 1) dX2_leadsTo_11 rfl rfl ?_
  refine sx_ialdE (a) (cV d b (11 + (a))) (cV_path d b (by omega) rfl) hb.2.2.2.2.1 rfl (by omega) dX2_leadsTo_12 ?_
  refine sw_ins (pc2 := 13) rfl rfl ?_
  refine sw_goto (tgt := 17) dX2_leadsTo_13 rfl ?_
  exact sw_ireturn rfl dX2_leadsTo_17
set_option maxRecDepth 100000 in
set_option maxHeartbeats 4000000 in
theorem P_X2_leadsTo {d : Nat → Nat → Int32} {r : Nat → Nat → Option Nat} {J : Nat → Nat → Int64} {b a : Nat} (hb : isB b) (ok : okPath (cV d b)) (ha : a < 8) : OP kX2_leadsTo yX2_leadsTo 1 [.ref b, .int (nI a)] d r J (some (.int (nI (pth (cV d b) a)))) d r J := by
  have h := A_X2_leadsTo (d := d) (r := r) (J := J) hb ha
  rw [(ok.1 a ha).1] at h
  exact h
def canS (V : Nat → Int32) : Int32 := if nI 9999 ≤ V 0 then nI 0 else nI 1
set_option maxRecDepth 100000 in
set_option maxHeartbeats 4000000 in
theorem A_X2_canStorm {d : Nat → Nat → Int32} {r : Nat → Nat → Option Nat} {J : Nat → Nat → Int64} {b : Nat} (hb : isB b) : OP kX2_canStorm yX2_canStorm 0 [.ref b] d r J (some (.int (canS (cV d b)))) d r J := by
  refine op_of pl_X2_canStorm (Nat.le_of_ble_eq_true rfl) ?_
  refine sw_aload_n (i := 0) dX2_canStorm_0 rfl rfl ?_
  refine sx_getIE (cV d b 0) (cV_day d b) f_X2_41 (kt_lt hb.1) (kF_B hb (j := 6) (by decide) (by decide)) dX2_canStorm_1 ?_
  refine sw_si 9999 dX2_canStorm_4 (by decide +kernel) ?_
  refine sw_ic_ge (tgt := 14) dX2_canStorm_7 rfl (fun h7 => ?_) (fun h7 => ?_)
  ·
    refine sw_ic 0 dX2_canStorm_14 ?_
    exact sw_zreturnE (by unfold canS; first | rw [if_pos h7] | rw [if_neg h7]) rfl (by unfold canS; first | (rw [if_pos h7]; rfl) | (rw [if_neg h7]; rfl)) dX2_canStorm_15
  ·
    refine sw_ic 1 dX2_canStorm_10 ?_
    refine sw_ins (pc2 := 11) rfl rfl ?_
    refine sw_goto (tgt := 15) dX2_canStorm_11 rfl ?_
    exact sw_zreturnE (by unfold canS; first | rw [if_pos h7] | rw [if_neg h7]) rfl (by unfold canS; first | (rw [if_pos h7]; rfl) | (rw [if_neg h7]; rfl)) dX2_canStorm_15
def pw (V : Nat → Int32) (a : Nat) : Int32 := nI 0 + V (19 + (a * 4 + 0)) * V (7 + 0) + V (19 + (a * 4 + 1)) * V (7 + 1) + V (19 + (a * 4 + 2)) * V (7 + 2) + V (19 + (a * 4 + 3)) * V (7 + 3)
set_option maxRecDepth 100000 in
set_option maxHeartbeats 4000000 in
theorem A_X2_purseWorth {d : Nat → Nat → Int32} {r : Nat → Nat → Option Nat} {J : Nat → Nat → Int64} {b a : Nat} (hb : isB b) (ha : a < 8) : OP kX2_purseWorth yX2_purseWorth 2 [.ref b, .int (nI a)] d r J (some (.int (pw (cV d b) a))) d r J := by
  refine op_of pl_X2_purseWorth (Nat.le_of_ble_eq_true rfl) ?_
  refine sw_ic 0 dX2_purseWorth_0 ?_
  refine sw_istore_n (i := 2) dX2_purseWorth_1 rfl (Nat.le_of_ble_eq_true rfl) rfl ?_
  refine sw_lo (lo2 := [some (.ref b), some (.int _), some (.int _), none]) rfl ?_
  refine sw_ic 0 dX2_purseWorth_2 ?_
  refine sw_istore_n (i := 3) dX2_purseWorth_3 rfl (Nat.le_of_ble_eq_true rfl) rfl ?_
  refine sw_lo (lo2 := [some (.ref b), some (.int _), some (.int _), some (.int _)]) rfl ?_
  refine sw_iload_n (i := 3) dX2_purseWorth_4 rfl rfl ?_
  refine sw_ic 4 dX2_purseWorth_5 ?_
  refine sw_ic_ge (tgt := 30) dX2_purseWorth_6 rfl (fun h9 => absurd h9 (by decide)) (fun _ => ?_)
  refine sw_ins (pc2 := 9) rfl rfl ?_
  refine sw_iload_n (i := 2) dX2_purseWorth_9 rfl rfl ?_
  refine sw_aload_n (i := 0) dX2_purseWorth_10 rfl rfl ?_
  refine sw_iload_n (i := 1) dX2_purseWorth_11 rfl rfl ?_
  refine sw_iload_n (i := 3) dX2_purseWorth_12 rfl rfl ?_
  refine px_Vx mv_X2_66 (A_X2_capsOf (a := a) (c := 0) hb ha (by decide)) rfl rfl (Nat.le_of_ble_eq_true rfl) (Nat.le_of_ble_eq_true rfl) (kO_B hb) (Nat.le_of_ble_eq_true rfl) dX2_purseWorth_13 ?_
  refine sw_aload_n (i := 0) dX2_purseWorth_16 rfl rfl ?_
  refine sw_iload_n (i := 3) dX2_purseWorth_17 rfl rfl ?_
  refine px_Vx mv_X2_70 (A_X2_worthOf (c := 0) hb (by decide)) rfl rfl (Nat.le_of_ble_eq_true rfl) (Nat.le_of_ble_eq_true rfl) (kO_B hb) (Nat.le_of_ble_eq_true rfl) dX2_purseWorth_18 ?_
  refine sw_ins (pc2 := 21) rfl rfl ?_
  refine sw_imul dX2_purseWorth_21 ?_
  refine sw_iadd dX2_purseWorth_22 ?_
  refine sw_istore_n (i := 2) dX2_purseWorth_23 rfl (Nat.le_of_ble_eq_true rfl) rfl ?_
  refine sw_lo (lo2 := [some (.ref b), some (.int _), some (.int _), some (.int _)]) rfl ?_
  refine sw_iinc (i := 3) (v := nI 1) dX2_purseWorth_24 rfl (by decide) (Nat.le_of_ble_eq_true rfl) rfl ?_
  refine sw_lo (lo2 := [some (.ref b), some (.int _), some (.int _), some (.int _)]) rfl ?_
  refine sw_goto (tgt := 4) dX2_purseWorth_27 rfl ?_
  refine sw_iload_n (i := 3) dX2_purseWorth_4 rfl rfl ?_
  refine sw_ic 4 dX2_purseWorth_5 ?_
  refine sw_ic_ge (tgt := 30) dX2_purseWorth_6 rfl (fun h9 => absurd h9 (by decide)) (fun _ => ?_)
  refine sw_ins (pc2 := 9) rfl rfl ?_
  refine sw_iload_n (i := 2) dX2_purseWorth_9 rfl rfl ?_
  refine sw_aload_n (i := 0) dX2_purseWorth_10 rfl rfl ?_
  refine sw_iload_n (i := 1) dX2_purseWorth_11 rfl rfl ?_
  refine sw_iload_n (i := 3) dX2_purseWorth_12 rfl rfl ?_
  refine px_Vx mv_X2_66 (A_X2_capsOf (a := a) (c := 1) hb ha (by decide)) rfl rfl (Nat.le_of_ble_eq_true rfl) (Nat.le_of_ble_eq_true rfl) (kO_B hb) (Nat.le_of_ble_eq_true rfl) dX2_purseWorth_13 ?_
  refine sw_aload_n (i := 0) dX2_purseWorth_16 rfl rfl ?_
  refine sw_iload_n (i := 3) dX2_purseWorth_17 rfl rfl ?_
  refine px_Vx mv_X2_70 (A_X2_worthOf (c := 1) hb (by decide)) rfl rfl (Nat.le_of_ble_eq_true rfl) (Nat.le_of_ble_eq_true rfl) (kO_B hb) (Nat.le_of_ble_eq_true rfl) dX2_purseWorth_18 ?_
  refine sw_ins (pc2 := 21) rfl rfl ?_
  refine sw_imul dX2_purseWorth_21 ?_
  refine sw_iadd dX2_purseWorth_22 ?_
  refine sw_istore_n (i := 2) dX2_purseWorth_23 rfl (Nat.le_of_ble_eq_true rfl) rfl ?_
  refine sw_lo (lo2 := [some (.ref b), some (.int _), some (.int _), some (.int _)]) rfl ?_
  refine sw_iinc (i := 3) (v := nI 2) dX2_purseWorth_24 rfl (by decide) (Nat.le_of_ble_eq_true rfl) rfl ?_
  refine sw_lo (lo2 := [some (.ref b), some (.int _), some (.int _), some (.int _)]) rfl ?_
  refine sw_goto (tgt := 4) dX2_purseWorth_27 rfl ?_
  refine sw_iload_n (i := 3) dX2_purseWorth_4 rfl rfl ?_
  refine sw_ic 4 dX2_purseWorth_5 ?_
  refine sw_ic_ge (tgt := 30) dX2_purseWorth_6 rfl (fun h9 => absurd h9 (by decide)) (fun _ => ?_)
  refine sw_ins (pc2 := 9) rfl rfl ?_
  refine sw_iload_n (i := 2) dX2_purseWorth_9 rfl rfl ?_
  refine sw_aload_n (i := 0) dX2_purseWorth_10 rfl rfl ?_
  refine sw_iload_n (i := 1) dX2_purseWorth_11 rfl rfl ?_
  refine sw_iload_n (i := 3) dX2_purseWorth_12 rfl rfl ?_
  refine px_Vx mv_X2_66 (A_X2_capsOf (a := a) (c := 2) hb ha (by decide)) rfl rfl (Nat.le_of_ble_eq_true rfl) (Nat.le_of_ble_eq_true rfl) (kO_B hb) (Nat.le_of_ble_eq_true rfl) dX2_purseWorth_13 ?_
  refine sw_aload_n (i := 0) dX2_purseWorth_16 rfl rfl ?_
  refine sw_iload_n (i := 3) dX2_purseWorth_17 rfl rfl ?_
  refine px_Vx mv_X2_70 (A_X2_worthOf (c := 2) hb (by decide)) rfl rfl (Nat.le_of_ble_eq_true rfl) (Nat.le_of_ble_eq_true rfl) (kO_B hb) (Nat.le_of_ble_eq_true rfl) dX2_purseWorth_18 ?_
  refine sw_ins (pc2 := 21) rfl rfl ?_
  refine sw_imul dX2_purseWorth_21 ?_
  refine sw_iadd dX2_purseWorth_22 ?_
  refine sw_istore_n (i := 2) dX2_purseWorth_23 rfl (Nat.le_of_ble_eq_true rfl) rfl ?_
  refine sw_lo (lo2 := [some (.ref b), some (.int _), some (.int _), some (.int _)]) rfl ?_
  refine sw_iinc (i := 3) (v := nI 3) dX2_purseWorth_24 rfl (by decide) (Nat.le_of_ble_eq_true rfl) rfl ?_
  refine sw_lo (lo2 := [some (.ref b), some (.int _), some (.int _), some (.int _)]) rfl ?_
  refine sw_goto (tgt := 4) dX2_purseWorth_27 rfl ?_
  refine sw_iload_n (i := 3) dX2_purseWorth_4 rfl rfl ?_
  refine sw_ic 4 dX2_purseWorth_5 ?_
  refine sw_ic_ge (tgt := 30) dX2_purseWorth_6 rfl (fun h9 => absurd h9 (by decide)) (fun _ => ?_)
  refine sw_ins (pc2 := 9) rfl rfl ?_
  refine sw_iload_n (i := 2) dX2_purseWorth_9 rfl rfl ?_
  refine sw_aload_n (i := 0) dX2_purseWorth_10 rfl rfl ?_
  refine sw_iload_n (i := 1) dX2_purseWorth_11 rfl rfl ?_
  refine sw_iload_n (i := 3) dX2_purseWorth_12 rfl rfl ?_
  refine px_Vx mv_X2_66 (A_X2_capsOf (a := a) (c := 3) hb ha (by decide)) rfl rfl (Nat.le_of_ble_eq_true rfl) (Nat.le_of_ble_eq_true rfl) (kO_B hb) (Nat.le_of_ble_eq_true rfl) dX2_purseWorth_13 ?_
  refine sw_aload_n (i := 0) dX2_purseWorth_16 rfl rfl ?_
  refine sw_iload_n (i := 3) dX2_purseWorth_17 rfl rfl ?_
  refine px_Vx mv_X2_70 (A_X2_worthOf (c := 3) hb (by decide)) rfl rfl (Nat.le_of_ble_eq_true rfl) (Nat.le_of_ble_eq_true rfl) (kO_B hb) (Nat.le_of_ble_eq_true rfl) dX2_purseWorth_18 ?_
  refine sw_ins (pc2 := 21) rfl rfl ?_
  refine sw_imul dX2_purseWorth_21 ?_
  refine sw_iadd dX2_purseWorth_22 ?_
  refine sw_istore_n (i := 2) dX2_purseWorth_23 rfl (Nat.le_of_ble_eq_true rfl) rfl ?_
  refine sw_lo (lo2 := [some (.ref b), some (.int _), some (.int _), some (.int _)]) rfl ?_
  refine sw_iinc (i := 3) (v := nI 4) dX2_purseWorth_24 rfl (by decide) (Nat.le_of_ble_eq_true rfl) rfl ?_
  refine sw_lo (lo2 := [some (.ref b), some (.int _), some (.int _), some (.int _)]) rfl ?_
  refine sw_goto (tgt := 4) dX2_purseWorth_27 rfl ?_
  refine sw_iload_n (i := 3) dX2_purseWorth_4 rfl rfl ?_
  refine sw_ic 4 dX2_purseWorth_5 ?_
  refine sw_ic_ge (tgt := 30) dX2_purseWorth_6 rfl (fun _ => ?_) (fun h9 => absurd (by decide) h9)
  refine sw_ins (pc2 := 30) rfl rfl ?_
  refine sw_iload_n (i := 2) dX2_purseWorth_30 rfl rfl ?_
  exact sw_ireturn rfl dX2_purseWorth_31
set_option maxRecDepth 100000 in
set_option maxHeartbeats 4000000 in
theorem A_X2_allCaps {d : Nat → Nat → Int32} {r : Nat → Nat → Option Nat} {J : Nat → Nat → Int64} {b : Nat} (hb : isB b) : OP kX2_allCaps yX2_allCaps 0 [.ref b] d r J (some (.int (rs (fun x => cV d b (19 + x)) 32))) d r J := by
  refine op_of pl_X2_allCaps (Nat.le_of_ble_eq_true rfl) ?_
  have L : ∀ i, i ≤ 32 → SW yX2_allCaps cX2_allCaps 3 (some .int) [] 0 none 4 [some (.ref b), some (.int (rs (fun x => cV d b (19 + x)) i)), some (.int (nI i))] [] 65 (W0 d r J) 0 0 (.inl (some (.int (rs (fun x => cV d b (19 + x)) 32)))) 65 (W0 d r J) := by
    refine am_loop 32 ?_ ?_
    ·
      refine sw_iload_n (i := 2) dX2_allCaps_4 rfl rfl ?_
      refine sw_aload_n (i := 0) dX2_allCaps_5 rfl rfl ?_
      refine sx_getR (q := b + 1) f_X2_9 (kt_lt hb.1) (kR_B hb (j := 0) (by decide)) dX2_allCaps_6 ?_
      refine sx_alen hb.2.1 dX2_allCaps_9 ?_
      refine sw_ic_ge (tgt := 28) dX2_allCaps_10 rfl (fun _ => ?_) (fun h9 => absurd (nI_le (Nat.le_refl _) (by decide)) h9)
      refine sw_iload_n (i := 1) dX2_allCaps_28 rfl rfl ?_
      exact sw_ireturn rfl dX2_allCaps_29
    · intro i hi ih
      refine sw_iload_n (i := 2) dX2_allCaps_4 rfl rfl ?_
      refine sw_aload_n (i := 0) dX2_allCaps_5 rfl rfl ?_
      refine sx_getR (q := b + 1) f_X2_9 (kt_lt hb.1) (kR_B hb (j := 0) (by decide)) dX2_allCaps_6 ?_
      refine sx_alen hb.2.1 dX2_allCaps_9 ?_
      refine sw_ic_ge (tgt := 28) dX2_allCaps_10 rfl (fun h9 => absurd h9 (nI_ge hi (by decide))) (fun _ => ?_)
      refine sw_iload_n (i := 1) dX2_allCaps_13 rfl rfl ?_
      refine sw_aload_n (i := 0) dX2_allCaps_14 rfl rfl ?_
      refine sw_ins (pc2 := 15) rfl rfl ?_
      refine sx_getR (q := b + 1) f_X2_9 (kt_lt hb.1) (kR_B hb (j := 0) (by decide)) dX2_allCaps_15 ?_
      refine sw_iload_n (i := 2) dX2_allCaps_18 rfl rfl ?_
      refine sx_ialdE (i) (cV d b (19 + (i))) (cV_caps d b (by omega) rfl) hb.2.1 rfl (by omega) dX2_allCaps_19 ?_
      refine sw_iadd dX2_allCaps_20 ?_
      refine sw_istore_n (i := 1) dX2_allCaps_21 rfl (Nat.le_of_ble_eq_true rfl) rfl ?_
      refine sw_lo (lo2 := [some (.ref b), some (.int _), some (.int _)]) rfl ?_
      refine sw_iinc (i := 2) (v := nI (i + 1)) dX2_allCaps_22 rfl (nI_1 _) (Nat.le_of_ble_eq_true rfl) rfl ?_
      refine sw_lo (lo2 := [some (.ref b), some (.int _), some (.int _)]) rfl ?_
      refine sw_goto (tgt := 4) dX2_allCaps_25 rfl ?_
      exact ih
  refine sw_ic 0 dX2_allCaps_0 ?_
  refine sw_istore_n (i := 1) dX2_allCaps_1 rfl (Nat.le_of_ble_eq_true rfl) rfl ?_
  refine sw_lo (lo2 := [some (.ref b), some (.int _), none]) rfl ?_
  refine sw_ic 0 dX2_allCaps_2 ?_
  refine sw_istore_n (i := 2) dX2_allCaps_3 rfl (Nat.le_of_ble_eq_true rfl) rfl ?_
  refine sw_lo (lo2 := [some (.ref b), some (.int _), some (.int _)]) rfl ?_
  exact L 0 (Nat.zero_le _)
def aw8 (V : Nat → Int32) : Int32 := nI 0 + pw V 0 + pw V 1 + pw V 2 + pw V 3 + pw V 4 + pw V 5 + pw V 6 + pw V 7
set_option maxRecDepth 100000 in
set_option maxHeartbeats 4000000 in
theorem A_X2_allWorth {d : Nat → Nat → Int32} {r : Nat → Nat → Option Nat} {J : Nat → Nat → Int64} {b : Nat} (hb : isB b) : OP kX2_allWorth yX2_allWorth 3 [.ref b] d r J (some (.int (aw8 (cV d b)))) d r J := by
  refine op_of pl_X2_allWorth (Nat.le_of_ble_eq_true rfl) ?_
  refine sw_ic 0 dX2_allWorth_0 ?_
  refine sw_istore_n (i := 1) dX2_allWorth_1 rfl (Nat.le_of_ble_eq_true rfl) rfl ?_
  refine sw_lo (lo2 := [some (.ref b), some (.int _), none]) rfl ?_
  refine sw_ic 0 dX2_allWorth_2 ?_
  refine sw_istore_n (i := 2) dX2_allWorth_3 rfl (Nat.le_of_ble_eq_true rfl) rfl ?_
  refine sw_lo (lo2 := [some (.ref b), some (.int _), some (.int _)]) rfl ?_
  refine sw_iload_n (i := 2) dX2_allWorth_4 rfl rfl ?_
  refine sw_bi 8 dX2_allWorth_5 (by decide +kernel) ?_
  refine sw_ic_ge (tgt := 24) dX2_allWorth_7 rfl (fun h9 => absurd h9 (by decide)) (fun _ => ?_)
  refine sw_ins (pc2 := 10) rfl rfl ?_
  refine sw_iload_n (i := 1) dX2_allWorth_10 rfl rfl ?_
  refine sw_aload_n (i := 0) dX2_allWorth_11 rfl rfl ?_
  refine sw_iload_n (i := 2) dX2_allWorth_12 rfl rfl ?_
  refine px_Vx mv_X2_74 (A_X2_purseWorth (a := 0) hb (by decide)) rfl rfl (Nat.le_of_ble_eq_true rfl) (Nat.le_of_ble_eq_true rfl) (kO_B hb) (Nat.le_of_ble_eq_true rfl) dX2_allWorth_13 ?_
  refine sw_iadd dX2_allWorth_16 ?_
  refine sw_istore_n (i := 1) dX2_allWorth_17 rfl (Nat.le_of_ble_eq_true rfl) rfl ?_
  refine sw_lo (lo2 := [some (.ref b), some (.int _), some (.int _)]) rfl ?_
  refine sw_iinc (i := 2) (v := nI 1) dX2_allWorth_18 rfl (by decide) (Nat.le_of_ble_eq_true rfl) rfl ?_
  refine sw_lo (lo2 := [some (.ref b), some (.int _), some (.int _)]) rfl ?_
  refine sw_goto (tgt := 4) dX2_allWorth_21 rfl ?_
  refine sw_ins (pc2 := 4) rfl rfl ?_
  refine sw_iload_n (i := 2) dX2_allWorth_4 rfl rfl ?_
  refine sw_bi 8 dX2_allWorth_5 (by decide +kernel) ?_
  refine sw_ic_ge (tgt := 24) dX2_allWorth_7 rfl (fun h9 => absurd h9 (by decide)) (fun _ => ?_)
  refine sw_iload_n (i := 1) dX2_allWorth_10 rfl rfl ?_
  refine sw_aload_n (i := 0) dX2_allWorth_11 rfl rfl ?_
  refine sw_iload_n (i := 2) dX2_allWorth_12 rfl rfl ?_
  refine px_Vx mv_X2_74 (A_X2_purseWorth (a := 1) hb (by decide)) rfl rfl (Nat.le_of_ble_eq_true rfl) (Nat.le_of_ble_eq_true rfl) (kO_B hb) (Nat.le_of_ble_eq_true rfl) dX2_allWorth_13 ?_
  refine sw_iadd dX2_allWorth_16 ?_
  refine sw_ins (pc2 := 17) rfl rfl ?_
  refine sw_istore_n (i := 1) dX2_allWorth_17 rfl (Nat.le_of_ble_eq_true rfl) rfl ?_
  refine sw_lo (lo2 := [some (.ref b), some (.int _), some (.int _)]) rfl ?_
  refine sw_iinc (i := 2) (v := nI 2) dX2_allWorth_18 rfl (by decide) (Nat.le_of_ble_eq_true rfl) rfl ?_
  refine sw_lo (lo2 := [some (.ref b), some (.int _), some (.int _)]) rfl ?_
  refine sw_goto (tgt := 4) dX2_allWorth_21 rfl ?_
  refine sw_iload_n (i := 2) dX2_allWorth_4 rfl rfl ?_
  refine sw_bi 8 dX2_allWorth_5 (by decide +kernel) ?_
  refine sw_ic_ge (tgt := 24) dX2_allWorth_7 rfl (fun h9 => absurd h9 (by decide)) (fun _ => ?_)
  refine sw_iload_n (i := 1) dX2_allWorth_10 rfl rfl ?_
  refine sw_aload_n (i := 0) dX2_allWorth_11 rfl rfl ?_
  refine sw_ins (pc2 := 12) rfl rfl ?_
  refine sw_iload_n (i := 2) dX2_allWorth_12 rfl rfl ?_
  refine px_Vx mv_X2_74 (A_X2_purseWorth (a := 2) hb (by decide)) rfl rfl (Nat.le_of_ble_eq_true rfl) (Nat.le_of_ble_eq_true rfl) (kO_B hb) (Nat.le_of_ble_eq_true rfl) dX2_allWorth_13 ?_
  refine sw_iadd dX2_allWorth_16 ?_
  refine sw_istore_n (i := 1) dX2_allWorth_17 rfl (Nat.le_of_ble_eq_true rfl) rfl ?_
  refine sw_lo (lo2 := [some (.ref b), some (.int _), some (.int _)]) rfl ?_
  refine sw_iinc (i := 2) (v := nI 3) dX2_allWorth_18 rfl (by decide) (Nat.le_of_ble_eq_true rfl) rfl ?_
  refine sw_lo (lo2 := [some (.ref b), some (.int _), some (.int _)]) rfl ?_
  refine sw_goto (tgt := 4) dX2_allWorth_21 rfl ?_
  refine sw_iload_n (i := 2) dX2_allWorth_4 rfl rfl ?_
  refine sw_bi 8 dX2_allWorth_5 (by decide +kernel) ?_
  refine sw_ins (pc2 := 7) rfl rfl ?_
  refine sw_ic_ge (tgt := 24) dX2_allWorth_7 rfl (fun h9 => absurd h9 (by decide)) (fun _ => ?_)
  refine sw_iload_n (i := 1) dX2_allWorth_10 rfl rfl ?_
  refine sw_aload_n (i := 0) dX2_allWorth_11 rfl rfl ?_
  refine sw_iload_n (i := 2) dX2_allWorth_12 rfl rfl ?_
  refine px_Vx mv_X2_74 (A_X2_purseWorth (a := 3) hb (by decide)) rfl rfl (Nat.le_of_ble_eq_true rfl) (Nat.le_of_ble_eq_true rfl) (kO_B hb) (Nat.le_of_ble_eq_true rfl) dX2_allWorth_13 ?_
  refine sw_iadd dX2_allWorth_16 ?_
  refine sw_istore_n (i := 1) dX2_allWorth_17 rfl (Nat.le_of_ble_eq_true rfl) rfl ?_
  refine sw_lo (lo2 := [some (.ref b), some (.int _), some (.int _)]) rfl ?_
  refine sw_iinc (i := 2) (v := nI 4) dX2_allWorth_18 rfl (by decide) (Nat.le_of_ble_eq_true rfl) rfl ?_
  refine sw_lo (lo2 := [some (.ref b), some (.int _), some (.int _)]) rfl ?_
  refine sw_ins (pc2 := 21) rfl rfl ?_
  refine sw_goto (tgt := 4) dX2_allWorth_21 rfl ?_
  refine sw_iload_n (i := 2) dX2_allWorth_4 rfl rfl ?_
  refine sw_bi 8 dX2_allWorth_5 (by decide +kernel) ?_
  refine sw_ic_ge (tgt := 24) dX2_allWorth_7 rfl (fun h9 => absurd h9 (by decide)) (fun _ => ?_)
  refine sw_iload_n (i := 1) dX2_allWorth_10 rfl rfl ?_
  refine sw_aload_n (i := 0) dX2_allWorth_11 rfl rfl ?_
  refine sw_iload_n (i := 2) dX2_allWorth_12 rfl rfl ?_
  refine px_Vx mv_X2_74 (A_X2_purseWorth (a := 4) hb (by decide)) rfl rfl (Nat.le_of_ble_eq_true rfl) (Nat.le_of_ble_eq_true rfl) (kO_B hb) (Nat.le_of_ble_eq_true rfl) dX2_allWorth_13 ?_
  refine sw_ins (pc2 := 16) rfl rfl ?_
  refine sw_iadd dX2_allWorth_16 ?_
  refine sw_istore_n (i := 1) dX2_allWorth_17 rfl (Nat.le_of_ble_eq_true rfl) rfl ?_
  refine sw_lo (lo2 := [some (.ref b), some (.int _), some (.int _)]) rfl ?_
  refine sw_iinc (i := 2) (v := nI 5) dX2_allWorth_18 rfl (by decide) (Nat.le_of_ble_eq_true rfl) rfl ?_
  refine sw_lo (lo2 := [some (.ref b), some (.int _), some (.int _)]) rfl ?_
  refine sw_goto (tgt := 4) dX2_allWorth_21 rfl ?_
  refine sw_iload_n (i := 2) dX2_allWorth_4 rfl rfl ?_
  refine sw_bi 8 dX2_allWorth_5 (by decide +kernel) ?_
  refine sw_ic_ge (tgt := 24) dX2_allWorth_7 rfl (fun h9 => absurd h9 (by decide)) (fun _ => ?_)
  refine sw_iload_n (i := 1) dX2_allWorth_10 rfl rfl ?_
  refine sw_ins (pc2 := 11) rfl rfl ?_
  refine sw_aload_n (i := 0) dX2_allWorth_11 rfl rfl ?_
  refine sw_iload_n (i := 2) dX2_allWorth_12 rfl rfl ?_
  refine px_Vx mv_X2_74 (A_X2_purseWorth (a := 5) hb (by decide)) rfl rfl (Nat.le_of_ble_eq_true rfl) (Nat.le_of_ble_eq_true rfl) (kO_B hb) (Nat.le_of_ble_eq_true rfl) dX2_allWorth_13 ?_
  refine sw_iadd dX2_allWorth_16 ?_
  refine sw_istore_n (i := 1) dX2_allWorth_17 rfl (Nat.le_of_ble_eq_true rfl) rfl ?_
  refine sw_lo (lo2 := [some (.ref b), some (.int _), some (.int _)]) rfl ?_
  refine sw_iinc (i := 2) (v := nI 6) dX2_allWorth_18 rfl (by decide) (Nat.le_of_ble_eq_true rfl) rfl ?_
  refine sw_lo (lo2 := [some (.ref b), some (.int _), some (.int _)]) rfl ?_
  refine sw_goto (tgt := 4) dX2_allWorth_21 rfl ?_
  refine sw_iload_n (i := 2) dX2_allWorth_4 rfl rfl ?_
  refine sw_ins (pc2 := 5) rfl rfl ?_
  refine sw_bi 8 dX2_allWorth_5 (by decide +kernel) ?_
  refine sw_ic_ge (tgt := 24) dX2_allWorth_7 rfl (fun h9 => absurd h9 (by decide)) (fun _ => ?_)
  refine sw_iload_n (i := 1) dX2_allWorth_10 rfl rfl ?_
  refine sw_aload_n (i := 0) dX2_allWorth_11 rfl rfl ?_
  refine sw_iload_n (i := 2) dX2_allWorth_12 rfl rfl ?_
  refine px_Vx mv_X2_74 (A_X2_purseWorth (a := 6) hb (by decide)) rfl rfl (Nat.le_of_ble_eq_true rfl) (Nat.le_of_ble_eq_true rfl) (kO_B hb) (Nat.le_of_ble_eq_true rfl) dX2_allWorth_13 ?_
  refine sw_iadd dX2_allWorth_16 ?_
  refine sw_istore_n (i := 1) dX2_allWorth_17 rfl (Nat.le_of_ble_eq_true rfl) rfl ?_
  refine sw_lo (lo2 := [some (.ref b), some (.int _), some (.int _)]) rfl ?_
  refine sw_ins (pc2 := 18) rfl rfl ?_
  refine sw_iinc (i := 2) (v := nI 7) dX2_allWorth_18 rfl (by decide) (Nat.le_of_ble_eq_true rfl) rfl ?_
  refine sw_lo (lo2 := [some (.ref b), some (.int _), some (.int _)]) rfl ?_
  refine sw_goto (tgt := 4) dX2_allWorth_21 rfl ?_
  refine sw_iload_n (i := 2) dX2_allWorth_4 rfl rfl ?_
  refine sw_bi 8 dX2_allWorth_5 (by decide +kernel) ?_
  refine sw_ic_ge (tgt := 24) dX2_allWorth_7 rfl (fun h9 => absurd h9 (by decide)) (fun _ => ?_)
  refine sw_iload_n (i := 1) dX2_allWorth_10 rfl rfl ?_
  refine sw_aload_n (i := 0) dX2_allWorth_11 rfl rfl ?_
  refine sw_iload_n (i := 2) dX2_allWorth_12 rfl rfl ?_
  refine sw_ins (pc2 := 13) rfl rfl ?_
  refine px_Vx mv_X2_74 (A_X2_purseWorth (a := 7) hb (by decide)) rfl rfl (Nat.le_of_ble_eq_true rfl) (Nat.le_of_ble_eq_true rfl) (kO_B hb) (Nat.le_of_ble_eq_true rfl) dX2_allWorth_13 ?_
  refine sw_iadd dX2_allWorth_16 ?_
  refine sw_istore_n (i := 1) dX2_allWorth_17 rfl (Nat.le_of_ble_eq_true rfl) rfl ?_
  refine sw_lo (lo2 := [some (.ref b), some (.int _), some (.int _)]) rfl ?_
  refine sw_iinc (i := 2) (v := nI 8) dX2_allWorth_18 rfl (by decide) (Nat.le_of_ble_eq_true rfl) rfl ?_
  refine sw_lo (lo2 := [some (.ref b), some (.int _), some (.int _)]) rfl ?_
  refine sw_goto (tgt := 4) dX2_allWorth_21 rfl ?_
  refine sw_iload_n (i := 2) dX2_allWorth_4 rfl rfl ?_
  refine sw_bi 8 dX2_allWorth_5 (by decide +kernel) ?_
  refine sw_ic_ge (tgt := 24) dX2_allWorth_7 rfl (fun _ => ?_) (fun h9 => absurd (by decide) h9)
  refine sw_ins (pc2 := 24) rfl rfl ?_
  refine sw_iload_n (i := 1) dX2_allWorth_24 rfl rfl ?_
  exact sw_ireturn rfl dX2_allWorth_25
def alg (V : Nat → Int32) (a : Nat) : Nat → Nat
  | 0 => a
  | n + 1 => pth V (alg V a n)
theorem alg_lt {V : Nat → Int32} (h : okPath V) {a : Nat} (ha : a < 8) : ∀ n, alg V a n < 8
  | 0 => ha
  | n + 1 => (h.1 _ (alg_lt h ha n)).2
set_option maxRecDepth 100000 in
set_option maxHeartbeats 4000000 in
theorem A_X2_along {d : Nat → Nat → Int32} {r : Nat → Nat → Option Nat} {J : Nat → Nat → Int64} {b a n : Nat} (hb : isB b) (ok : okPath (cV d b)) (ha : a < 8) (hn : n < 2 ^ 31) : OP kX2_along yX2_along 2 [.ref b, .int (nI a), .int (nI n)] d r J (some (.int (nI (alg (cV d b) a n)))) d r J := by
  refine op_of pl_X2_along (Nat.le_of_ble_eq_true rfl) ?_
  have L : ∀ i, i ≤ n → SW yX2_along cX2_along 5 (some .int) [] 2 none 5 [some (.ref b), some (.int (nI a)), some (.int (nI n)), some (.int (nI (alg (cV d b) a i))), some (.int (nI i))] [] 65 (W0 d r J) 0 0 (.inl (some (.int (nI (alg (cV d b) a n))))) 65 (W0 d r J) := by
    refine am_loop n ?_ ?_
    ·
      refine sw_iload (i := 4) dX2_along_5 rfl ?_
      refine sw_iload_n (i := 2) dX2_along_7 rfl rfl ?_
      refine sw_ic_ge (tgt := 23) dX2_along_8 rfl (fun _ => ?_) (fun h9 => absurd (nI_le (Nat.le_refl _) hn) h9)
      refine sw_iload_n (i := 3) dX2_along_23 rfl rfl ?_
      exact sw_ireturn rfl dX2_along_24
    · intro i hi ih
      have hq := alg_lt ok ha i
      refine sw_iload (i := 4) dX2_along_5 rfl ?_
      refine sw_iload_n (i := 2) dX2_along_7 rfl rfl ?_
      refine sw_ic_ge (tgt := 23) dX2_along_8 rfl (fun h9 => absurd h9 (nI_ge hi hn)) (fun _ => ?_)
      refine sw_aload_n (i := 0) dX2_along_11 rfl rfl ?_
      refine sw_iload_n (i := 3) dX2_along_12 rfl rfl ?_
      refine px_Vx mv_X2_77 (P_X2_leadsTo (a := (alg (cV d b) a i)) hb ok (by omega)) rfl rfl (Nat.le_of_ble_eq_true rfl) (Nat.le_of_ble_eq_true rfl) (kO_B hb) (Nat.le_of_ble_eq_true rfl) dX2_along_13 ?_
      refine sw_istore_n (i := 3) dX2_along_16 rfl (Nat.le_of_ble_eq_true rfl) rfl ?_
      refine sw_lo (lo2 := [some (.ref b), some (.int _), some (.int _), some (.int _), some (.int _)]) rfl ?_
      refine sw_ins (pc2 := 17) rfl rfl ?_
      refine sw_iinc (i := 4) (v := nI (i + 1)) dX2_along_17 rfl (nI_1 _) (Nat.le_of_ble_eq_true rfl) rfl ?_
      refine sw_lo (lo2 := [some (.ref b), some (.int _), some (.int _), some (.int _), some (.int _)]) rfl ?_
      refine sw_goto (tgt := 5) dX2_along_20 rfl ?_
      exact ih
  refine sw_iload_n (i := 1) dX2_along_0 rfl rfl ?_
  refine sw_istore_n (i := 3) dX2_along_1 rfl (Nat.le_of_ble_eq_true rfl) rfl ?_
  refine sw_lo (lo2 := [some (.ref b), some (.int _), some (.int _), some (.int _), none]) rfl ?_
  refine sw_ic 0 dX2_along_2 ?_
  refine sw_istore (i := 4) dX2_along_3 (Nat.le_of_ble_eq_true rfl) rfl ?_
  refine sw_lo (lo2 := [some (.ref b), some (.int _), some (.int _), some (.int _), some (.int _)]) rfl ?_
  exact L 0 (Nat.zero_le _)
