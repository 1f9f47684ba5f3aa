/-! THE MODEL, 11: its looks, the digest (own work, written by wip/tools) -/
set_option maxRecDepth 100000 in
set_option maxHeartbeats 4000000 in
theorem N1_caps {d : Nat → Nat → Int32} {r : Nat → Nat → Option Nat} {J : Nat → Nat → Int64} {V : Nat → Int32} {n : Nat} {H S : Nat → Nat → Int32} {t : Nat → Bool} {T : Nat → Int32} {tl : Nat} (h : RM d V n H S t T tl) (iv : IV V n H S t T tl) {x y : Int32} (hx : x < 0 ∨ ¬ x < nI 8) : ∃ d1, OP kX7_caps yX7_caps 2 [.ref 65, .int x, .int y] d r J (some (.int (nI 0))) d1 r J ∧ RM d1 V n H S t T tl ∧ d1 65 7 = nI 1 ∧ fc d d1 := by
  obtain ⟨okP, okM, okT9, okC, okW, okD⟩ := id iv.1
  have hV : mV d = V := h.2.1
  have hm8 := okM.2
  refine ⟨d2 d 65 7 (nI 1), op_of pl_X7_caps (Nat.le_of_ble_eq_true rfl) ?_, RM_th h, d2_eq _ _ _ _, fc_d2 (fc_refl d) (by decide)⟩
  refine sw_aload_n (i := 0) dX7_caps_0 rfl rfl ?_
  refine sw_iload_n (i := 1) dX7_caps_1 rfl rfl ?_
  refine px_Sx ms_X7_88 (A0_X7_isIslander hx) rfl rfl (Nat.le_of_ble_eq_true rfl) (Nat.le_of_ble_eq_true rfl) (Nat.le_of_ble_eq_true rfl) dX7_caps_2 ?_
  refine sw_if_eq (tgt := 19) dX7_caps_5 rfl (fun _ => ?_) (fun h9 => absurd (by decide) h9)
  refine sw_ic 1 dX7_caps_19 ?_
  refine px_Vx mv_X7_92 (A0_X7_holds (k := 1) (by decide) (by decide)) rfl rfl (Nat.le_of_ble_eq_true rfl) (Nat.le_of_ble_eq_true rfl) ko_65 (Nat.le_of_ble_eq_true rfl) dX7_caps_20 ?_
  refine sw_if_eq (tgt := 35) dX7_caps_23 rfl (fun _ => ?_) (fun h9 => absurd (by decide) h9)
  refine sw_ins (pc2 := 35) rfl rfl ?_
  refine sw_ic 0 dX7_caps_35 ?_
  exact sw_ireturn rfl dX7_caps_36
set_option maxRecDepth 100000 in
set_option maxHeartbeats 4000000 in
theorem N2_caps {d : Nat → Nat → Int32} {r : Nat → Nat → Option Nat} {J : Nat → Nat → Int64} {V : Nat → Int32} {n : Nat} {H S : Nat → Nat → Int32} {t : Nat → Bool} {T : Nat → Int32} {tl : Nat} (h : RM d V n H S t T tl) (iv : IV V n H S t T tl) {a : Nat} {y : Int32} (ha : a < 8) (hy : y < 0 ∨ ¬ y < nI 4) : ∃ d1, OP kX7_caps yX7_caps 2 [.ref 65, .int (nI a), .int y] d r J (some (.int (nI 0))) d1 r J ∧ RM d1 V n H S t T tl ∧ d1 65 7 = nI 1 ∧ fc d d1 := by
  obtain ⟨okP, okM, okT9, okC, okW, okD⟩ := id iv.1
  have hV : mV d = V := h.2.1
  have hm8 := okM.2
  refine ⟨d2 d 65 7 (nI 1), op_of pl_X7_caps (Nat.le_of_ble_eq_true rfl) ?_, RM_th h, d2_eq _ _ _ _, fc_d2 (fc_refl d) (by decide)⟩
  refine sw_aload_n (i := 0) dX7_caps_0 rfl rfl ?_
  refine sw_iload_n (i := 1) dX7_caps_1 rfl rfl ?_
  refine px_Sx ms_X7_88 (A1_X7_isIslander ha) rfl rfl (Nat.le_of_ble_eq_true rfl) (Nat.le_of_ble_eq_true rfl) (Nat.le_of_ble_eq_true rfl) dX7_caps_2 ?_
  refine sw_if_eq (tgt := 19) dX7_caps_5 rfl (fun h9 => absurd h9 (by decide)) (fun _ => ?_)
  refine sw_iload_n (i := 2) dX7_caps_8 rfl rfl ?_
  refine px_Sx ms_X7_105 (A0_X7_isColour hy) rfl rfl (Nat.le_of_ble_eq_true rfl) (Nat.le_of_ble_eq_true rfl) (Nat.le_of_ble_eq_true rfl) dX7_caps_9 ?_
  refine sw_if_eq (tgt := 19) dX7_caps_12 rfl (fun _ => ?_) (fun h9 => absurd (by decide) h9)
  refine sw_ins (pc2 := 19) rfl rfl ?_
  refine sw_ic 1 dX7_caps_19 ?_
  refine px_Vx mv_X7_92 (A0_X7_holds (k := 1) (by decide) (by decide)) rfl rfl (Nat.le_of_ble_eq_true rfl) (Nat.le_of_ble_eq_true rfl) ko_65 (Nat.le_of_ble_eq_true rfl) dX7_caps_20 ?_
  refine sw_if_eq (tgt := 35) dX7_caps_23 rfl (fun _ => ?_) (fun h9 => absurd (by decide) h9)
  refine sw_ic 0 dX7_caps_35 ?_
  exact sw_ireturn rfl dX7_caps_36
set_option maxRecDepth 100000 in
set_option maxHeartbeats 4000000 in
theorem M_caps {d : Nat → Nat → Int32} {r : Nat → Nat → Option Nat} {J : Nat → Nat → Int64} {V : Nat → Int32} {n : Nat} {H S : Nat → Nat → Int32} {t : Nat → Bool} {T : Nat → Int32} {tl : Nat} (h : RM d V n H S t T tl) (iv : IV V n H S t T tl) {a c : Nat} (ha : a < 8) (hc : c < 4) : ∃ d1, OP kX7_caps yX7_caps 2 [.ref 65, .int (nI a), .int (nI c)] d r J (some (.int (V (19 + (a * 4 + c))))) d1 r J ∧ RM d1 V n H S t T tl ∧ d1 65 7 = nI 0 ∧ fc d d1 := by
  obtain ⟨okP, okM, okT9, okC, okW, okD⟩ := id iv.1
  have hV : mV d = V := h.2.1
  have hm8 := okM.2
  have h0 := RM_th (x := nI 0) h
  have v0 : mV (d2 d 65 7 (nI 0)) = V := h0.2.1
  have g0 := A_X7_capsOf (d := d2 d 65 7 (nI 0)) (r := r) (J := J) ha hc
  rw [v0] at g0
  refine ⟨d2 d 65 7 (nI 0), op_of pl_X7_caps (Nat.le_of_ble_eq_true rfl) ?_, h0, d2_eq _ _ _ _, fc_d2 (fc_refl d) (by decide)⟩
  refine sw_aload_n (i := 0) dX7_caps_0 rfl rfl ?_
  refine sw_iload_n (i := 1) dX7_caps_1 rfl rfl ?_
  refine px_Sx ms_X7_88 (A1_X7_isIslander ha) rfl rfl (Nat.le_of_ble_eq_true rfl) (Nat.le_of_ble_eq_true rfl) (Nat.le_of_ble_eq_true rfl) dX7_caps_2 ?_
  refine sw_if_eq (tgt := 19) dX7_caps_5 rfl (fun h9 => absurd h9 (by decide)) (fun _ => ?_)
  refine sw_iload_n (i := 2) dX7_caps_8 rfl rfl ?_
  refine px_Sx ms_X7_105 (A1_X7_isColour hc) rfl rfl (Nat.le_of_ble_eq_true rfl) (Nat.le_of_ble_eq_true rfl) (Nat.le_of_ble_eq_true rfl) dX7_caps_9 ?_
  refine sw_if_eq (tgt := 19) dX7_caps_12 rfl (fun h9 => absurd h9 (by decide)) (fun _ => ?_)
  refine sw_ins (pc2 := 15) rfl rfl ?_
  refine sw_ic 0 dX7_caps_15 ?_
  refine sw_goto (tgt := 20) dX7_caps_16 rfl ?_
  refine px_Vx mv_X7_92 A1_X7_holds rfl rfl (Nat.le_of_ble_eq_true rfl) (Nat.le_of_ble_eq_true rfl) ko_65 (Nat.le_of_ble_eq_true rfl) dX7_caps_20 ?_
  refine sw_if_eq (tgt := 35) dX7_caps_23 rfl (fun h9 => absurd h9 (by decide)) (fun _ => ?_)
  refine sw_aload_n (i := 0) dX7_caps_26 rfl rfl ?_
  refine sw_iload_n (i := 1) dX7_caps_27 rfl rfl ?_
  refine sw_iload_n (i := 2) dX7_caps_28 rfl rfl ?_
  refine px_Vx mv_X7_50 g0 rfl rfl (Nat.le_of_ble_eq_true rfl) (Nat.le_of_ble_eq_true rfl) ko_65 (Nat.le_of_ble_eq_true rfl) dX7_caps_29 ?_
  refine sw_ins (pc2 := 32) rfl rfl ?_
  refine sw_goto (tgt := 36) dX7_caps_32 rfl ?_
  exact sw_ireturn rfl dX7_caps_36
set_option maxRecDepth 100000 in
set_option maxHeartbeats 4000000 in
theorem N1_islanderOf {d : Nat → Nat → Int32} {r : Nat → Nat → Option Nat} {J : Nat → Nat → Int64} {V : Nat → Int32} {n : Nat} {H S : Nat → Nat → Int32} {t : Nat → Bool} {T : Nat → Int32} {tl : Nat} (h : RM d V n H S t T tl) (iv : IV V n H S t T tl) {x y : Int32} (hx : x < 0 ∨ ¬ x < nI 8) : ∃ d1, OP kX7_islanderOf yX7_islanderOf 3 [.ref 65, .int x, .int y] d r J (some (.int (nI 0))) d1 r J ∧ RM d1 V n H S t T tl ∧ d1 65 7 = nI 1 ∧ fc d d1 := by
  obtain ⟨okP, okM, okT9, okC, okW, okD⟩ := id iv.1
  have hV : mV d = V := h.2.1
  have hm8 := okM.2
  refine ⟨d2 d 65 7 (nI 1), op_of pl_X7_islanderOf (Nat.le_of_ble_eq_true rfl) ?_, RM_th h, d2_eq _ _ _ _, fc_d2 (fc_refl d) (by decide)⟩
  refine sw_aload_n (i := 0) dX7_islanderOf_0 rfl rfl ?_
  refine sw_iload_n (i := 1) dX7_islanderOf_1 rfl rfl ?_
  refine px_Sx ms_X7_88 (A0_X7_isIslander hx) rfl rfl (Nat.le_of_ble_eq_true rfl) (Nat.le_of_ble_eq_true rfl) (Nat.le_of_ble_eq_true rfl) dX7_islanderOf_2 ?_
  refine sw_if_ne (tgt := 12) dX7_islanderOf_5 rfl (fun h9 => absurd (by decide) h9) (fun _ => ?_)
  refine sw_ic 1 dX7_islanderOf_8 ?_
  refine sw_goto (tgt := 26) dX7_islanderOf_9 rfl ?_
  refine px_Vx mv_X7_92 (A0_X7_holds (k := 1) (by decide) (by decide)) rfl rfl (Nat.le_of_ble_eq_true rfl) (Nat.le_of_ble_eq_true rfl) ko_65 (Nat.le_of_ble_eq_true rfl) dX7_islanderOf_26 ?_
  refine sw_ins (pc2 := 29) rfl rfl ?_
  refine sw_if_eq (tgt := 41) dX7_islanderOf_29 rfl (fun _ => ?_) (fun h9 => absurd (by decide) h9)
  refine sw_ic 0 dX7_islanderOf_41 ?_
  exact sw_ireturn rfl dX7_islanderOf_42
set_option maxRecDepth 100000 in
set_option maxHeartbeats 4000000 in
theorem N2_islanderOf {d : Nat → Nat → Int32} {r : Nat → Nat → Option Nat} {J : Nat → Nat → Int64} {V : Nat → Int32} {n : Nat} {H S : Nat → Nat → Int32} {t : Nat → Bool} {T : Nat → Int32} {tl : Nat} (h : RM d V n H S t T tl) (iv : IV V n H S t T tl) {a : Nat} {y : Int32} (ha : a < 8) (hy : y < 0 ∨ ¬ y < nI 5) : ∃ d1, OP kX7_islanderOf yX7_islanderOf 3 [.ref 65, .int (nI a), .int y] d r J (some (.int (nI 0))) d1 r J ∧ RM d1 V n H S t T tl ∧ d1 65 7 = nI 2 ∧ fc d d1 := by
  obtain ⟨okP, okM, okT9, okC, okW, okD⟩ := id iv.1
  have hV : mV d = V := h.2.1
  have hm8 := okM.2
  refine ⟨d2 d 65 7 (nI 2), op_of pl_X7_islanderOf (Nat.le_of_ble_eq_true rfl) ?_, RM_th h, d2_eq _ _ _ _, fc_d2 (fc_refl d) (by decide)⟩
  refine sw_aload_n (i := 0) dX7_islanderOf_0 rfl rfl ?_
  refine sw_iload_n (i := 1) dX7_islanderOf_1 rfl rfl ?_
  refine px_Sx ms_X7_88 (A1_X7_isIslander ha) rfl rfl (Nat.le_of_ble_eq_true rfl) (Nat.le_of_ble_eq_true rfl) (Nat.le_of_ble_eq_true rfl) dX7_islanderOf_2 ?_
  refine sw_if_ne (tgt := 12) dX7_islanderOf_5 rfl (fun _ => ?_) (fun h9 => absurd h9 (by decide))
  refine sw_iload_n (i := 2) dX7_islanderOf_12 rfl rfl ?_
  refine sw_ic 0 dX7_islanderOf_13 ?_
  refine sw_ic 4 dX7_islanderOf_14 ?_
  refine sw_ins (pc2 := 15) rfl rfl ?_
  refine px_Sx ms_X7_39 (A0_X7_in (in_8 (k := 4) (by decide) hy)) rfl rfl (Nat.le_of_ble_eq_true rfl) (Nat.le_of_ble_eq_true rfl) (Nat.le_of_ble_eq_true rfl) dX7_islanderOf_15 ?_
  refine sw_if_eq (tgt := 25) dX7_islanderOf_18 rfl (fun _ => ?_) (fun h9 => absurd (by decide) h9)
  refine sw_ic 2 dX7_islanderOf_25 ?_
  refine px_Vx mv_X7_92 (A0_X7_holds (k := 2) (by decide) (by decide)) rfl rfl (Nat.le_of_ble_eq_true rfl) (Nat.le_of_ble_eq_true rfl) ko_65 (Nat.le_of_ble_eq_true rfl) dX7_islanderOf_26 ?_
  refine sw_if_eq (tgt := 41) dX7_islanderOf_29 rfl (fun _ => ?_) (fun h9 => absurd (by decide) h9)
  refine sw_ic 0 dX7_islanderOf_41 ?_
  exact sw_ireturn rfl dX7_islanderOf_42
set_option maxRecDepth 100000 in
set_option maxHeartbeats 4000000 in
theorem M_islanderOf {d : Nat → Nat → Int32} {r : Nat → Nat → Option Nat} {J : Nat → Nat → Int64} {V : Nat → Int32} {n : Nat} {H S : Nat → Nat → Int32} {t : Nat → Bool} {T : Nat → Int32} {tl : Nat} (h : RM d V n H S t T tl) (iv : IV V n H S t T tl) {a k : Nat} (ha : a < 8) (hk : k < 5) : ∃ d1, OP kX7_islanderOf yX7_islanderOf 3 [.ref 65, .int (nI a), .int (nI k)] d r J (some (.int (isl V a k))) d1 r J ∧ RM d1 V n H S t T tl ∧ d1 65 7 = nI 0 ∧ fc d d1 := by
  obtain ⟨okP, okM, okT9, okC, okW, okD⟩ := id iv.1
  have hV : mV d = V := h.2.1
  have hm8 := okM.2
  have h0 := RM_th (x := nI 0) h
  have v0 : mV (d2 d 65 7 (nI 0)) = V := h0.2.1
  have g0 := A_X7_islanderTold (d := d2 d 65 7 (nI 0)) (r := r) (J := J) v0 okP okM ha hk
  refine ⟨d2 d 65 7 (nI 0), op_of pl_X7_islanderOf (Nat.le_of_ble_eq_true rfl) ?_, h0, d2_eq _ _ _ _, fc_d2 (fc_refl d) (by decide)⟩
  refine sw_aload_n (i := 0) dX7_islanderOf_0 rfl rfl ?_
  refine sw_iload_n (i := 1) dX7_islanderOf_1 rfl rfl ?_
  refine px_Sx ms_X7_88 (A1_X7_isIslander ha) rfl rfl (Nat.le_of_ble_eq_true rfl) (Nat.le_of_ble_eq_true rfl) (Nat.le_of_ble_eq_true rfl) dX7_islanderOf_2 ?_
  refine sw_if_ne (tgt := 12) dX7_islanderOf_5 rfl (fun _ => ?_) (fun h9 => absurd h9 (by decide))
  refine sw_iload_n (i := 2) dX7_islanderOf_12 rfl rfl ?_
  refine sw_ic 0 dX7_islanderOf_13 ?_
  refine sw_ic 4 dX7_islanderOf_14 ?_
  refine sw_ins (pc2 := 15) rfl rfl ?_
  refine px_Sx ms_X7_39 (A1_X7_in (in_a (k := 4) (by decide) (by omega))) rfl rfl (Nat.le_of_ble_eq_true rfl) (Nat.le_of_ble_eq_true rfl) (Nat.le_of_ble_eq_true rfl) dX7_islanderOf_15 ?_
  refine sw_if_eq (tgt := 25) dX7_islanderOf_18 rfl (fun h9 => absurd h9 (by decide)) (fun _ => ?_)
  refine sw_ic 0 dX7_islanderOf_21 ?_
  refine sw_goto (tgt := 26) dX7_islanderOf_22 rfl ?_
  refine px_Vx mv_X7_92 A1_X7_holds rfl rfl (Nat.le_of_ble_eq_true rfl) (Nat.le_of_ble_eq_true rfl) ko_65 (Nat.le_of_ble_eq_true rfl) dX7_islanderOf_26 ?_
  refine sw_if_eq (tgt := 41) dX7_islanderOf_29 rfl (fun h9 => absurd h9 (by decide)) (fun _ => ?_)
  refine sw_aload_n (i := 0) dX7_islanderOf_32 rfl rfl ?_
  refine sw_iload_n (i := 1) dX7_islanderOf_33 rfl rfl ?_
  refine sw_ins (pc2 := 34) rfl rfl ?_
  refine sw_iload_n (i := 2) dX7_islanderOf_34 rfl rfl ?_
  refine px_Vx mv_X7_173 g0 rfl rfl (Nat.le_of_ble_eq_true rfl) (Nat.le_of_ble_eq_true rfl) ko_65 (Nat.le_of_ble_eq_true rfl) dX7_islanderOf_35 ?_
  refine sw_goto (tgt := 42) dX7_islanderOf_38 rfl ?_
  exact sw_ireturn rfl dX7_islanderOf_42
set_option maxRecDepth 100000 in
set_option maxHeartbeats 4000000 in
theorem N1_promiseOf {d : Nat → Nat → Int32} {r : Nat → Nat → Option Nat} {J : Nat → Nat → Int64} {V : Nat → Int32} {n : Nat} {H S : Nat → Nat → Int32} {t : Nat → Bool} {T : Nat → Int32} {tl : Nat} (h : RM d V n H S t T tl) (iv : IV V n H S t T tl) {x y : Int32} (hx : x < 0 ∨ ¬ x < nI (nv V 1)) : ∃ d1, OP kX7_promiseOf yX7_promiseOf 5 [.ref 65, .int x, .int y] d r J (some (.int (nI 0))) d1 r J ∧ RM d1 V n H S t T tl ∧ d1 65 7 = nI 1 ∧ fc d d1 := by
  obtain ⟨okP, okM, okT9, okC, okW, okD⟩ := id iv.1
  have hV : mV d = V := h.2.1
  have hm8 := okM.2
  subst hV
  refine ⟨d2 d 65 7 (nI 1), op_of pl_X7_promiseOf (Nat.le_of_ble_eq_true rfl) ?_, RM_th h, d2_eq _ _ _ _, fc_d2 (fc_refl d) (by decide)⟩
  refine sw_aload_n (i := 0) dX7_promiseOf_0 rfl rfl ?_
  refine sw_aload_n (i := 0) dX7_promiseOf_1 rfl rfl ?_
  refine sw_iload_n (i := 1) dX7_promiseOf_2 rfl rfl ?_
  refine px_Vx mv_X7_119 (A0_X7_isPromise okM hx) rfl rfl (Nat.le_of_ble_eq_true rfl) (Nat.le_of_ble_eq_true rfl) ko_65 (Nat.le_of_ble_eq_true rfl) dX7_promiseOf_3 ?_
  refine sw_if_ne (tgt := 13) dX7_promiseOf_6 rfl (fun h9 => absurd (by decide) h9) (fun _ => ?_)
  refine sw_ic 1 dX7_promiseOf_9 ?_
  refine sw_goto (tgt := 27) dX7_promiseOf_10 rfl ?_
  refine sw_ins (pc2 := 27) rfl rfl ?_
  refine px_Vx mv_X7_92 (A0_X7_holds (k := 1) (by decide) (by decide)) rfl rfl (Nat.le_of_ble_eq_true rfl) (Nat.le_of_ble_eq_true rfl) ko_65 (Nat.le_of_ble_eq_true rfl) dX7_promiseOf_27 ?_
  refine sw_if_ne (tgt := 37) dX7_promiseOf_30 rfl (fun h9 => absurd (by decide) h9) (fun _ => ?_)
  refine sw_ic 0 dX7_promiseOf_33 ?_
  refine sw_goto (tgt := 56) dX7_promiseOf_34 rfl ?_
  exact sw_ireturn rfl dX7_promiseOf_56
set_option maxRecDepth 100000 in
set_option maxHeartbeats 4000000 in
theorem N2_promiseOf {d : Nat → Nat → Int32} {r : Nat → Nat → Option Nat} {J : Nat → Nat → Int64} {V : Nat → Int32} {n : Nat} {H S : Nat → Nat → Int32} {t : Nat → Bool} {T : Nat → Int32} {tl : Nat} (h : RM d V n H S t T tl) (iv : IV V n H S t T tl) {q : Nat} {y : Int32} (hq : q < nv V 1) (hy : y < nI 0 ∨ ¬ y ≤ nI 4) : ∃ d1, OP kX7_promiseOf yX7_promiseOf 5 [.ref 65, .int (nI q), .int y] d r J (some (.int (nI 0))) d1 r J ∧ RM d1 V n H S t T tl ∧ d1 65 7 = nI 2 ∧ fc d d1 := by
  obtain ⟨okP, okM, okT9, okC, okW, okD⟩ := id iv.1
  have hV : mV d = V := h.2.1
  have hm8 := okM.2
  refine ⟨d2 d 65 7 (nI 2), op_of pl_X7_promiseOf (Nat.le_of_ble_eq_true rfl) ?_, RM_th h, d2_eq _ _ _ _, fc_d2 (fc_refl d) (by decide)⟩
  refine sw_aload_n (i := 0) dX7_promiseOf_0 rfl rfl ?_
  refine sw_aload_n (i := 0) dX7_promiseOf_1 rfl rfl ?_
  refine sw_iload_n (i := 1) dX7_promiseOf_2 rfl rfl ?_
  refine px_Vx mv_X7_119 (A1_X7_isPromise (by rw [hV]; exact okM) (by rw [hV]; exact hq)) rfl rfl (Nat.le_of_ble_eq_true rfl) (Nat.le_of_ble_eq_true rfl) ko_65 (Nat.le_of_ble_eq_true rfl) dX7_promiseOf_3 ?_
  refine sw_if_ne (tgt := 13) dX7_promiseOf_6 rfl (fun _ => ?_) (fun h9 => absurd h9 (by decide))
  refine sw_iload_n (i := 2) dX7_promiseOf_13 rfl rfl ?_
  refine sw_ic 0 dX7_promiseOf_14 ?_
  refine sw_ins (pc2 := 15) rfl rfl ?_
  refine sw_ic 4 dX7_promiseOf_15 ?_
  refine px_Sx ms_X7_39 (A0_X7_in (in_r (lo := 0) (hi := 4) hy)) rfl rfl (Nat.le_of_ble_eq_true rfl) (Nat.le_of_ble_eq_true rfl) (Nat.le_of_ble_eq_true rfl) dX7_promiseOf_16 ?_
  refine sw_if_eq (tgt := 26) dX7_promiseOf_19 rfl (fun _ => ?_) (fun h9 => absurd (by decide) h9)
  refine sw_ic 2 dX7_promiseOf_26 ?_
  refine px_Vx mv_X7_92 (A0_X7_holds (k := 2) (by decide) (by decide)) rfl rfl (Nat.le_of_ble_eq_true rfl) (Nat.le_of_ble_eq_true rfl) ko_65 (Nat.le_of_ble_eq_true rfl) dX7_promiseOf_27 ?_
  refine sw_if_ne (tgt := 37) dX7_promiseOf_30 rfl (fun h9 => absurd (by decide) h9) (fun _ => ?_)
  refine sw_ic 0 dX7_promiseOf_33 ?_
  refine sw_goto (tgt := 56) dX7_promiseOf_34 rfl ?_
  refine sw_ins (pc2 := 56) rfl rfl ?_
  exact sw_ireturn rfl dX7_promiseOf_56
set_option maxRecDepth 100000 in
set_option maxHeartbeats 4000000 in
theorem M_promiseOf {d : Nat → Nat → Int32} {r : Nat → Nat → Option Nat} {J : Nat → Nat → Int64} {V : Nat → Int32} {n : Nat} {H S : Nat → Nat → Int32} {t : Nat → Bool} {T : Nat → Int32} {tl : Nat} (h : RM d V n H S t T tl) (iv : IV V n H S t T tl) {q k : Nat} (hq : q < nv V 1) (hk : k ≤ 4) : ∃ d1, OP kX7_promiseOf yX7_promiseOf 5 [.ref 65, .int (nI q), .int (nI k)] d r J (some (.int (pro V q k))) d1 r J ∧ RM d1 V n H S t T tl ∧ d1 65 7 = nI 0 ∧ fc d d1 := by
  obtain ⟨okP, okM, okT9, okC, okW, okD⟩ := id iv.1
  have hV : mV d = V := h.2.1
  have hm8 := okM.2
  have h0 := RM_th (x := nI 0) h
  have v0 : mV (d2 d 65 7 (nI 0)) = V := h0.2.1
  by_cases c4 : k = 4
  · subst c4
    obtain ⟨d1, a1, a2⟩ := A_X7_payOf (d := d2 d 65 7 (nI 0)) (r := r) (J := J) (q := q) (by rw [v0]; exact iv.1) (by rw [v0]; exact hq)
    rw [v0] at a1
    rw [show pro V q 4 = enc (wy V (prt V q 0) (prt V q 2)) from if_neg (by decide)]
    obtain ⟨r1, r2, r3⟩ := RM_chg h0 ((mV_keep (a2.1 66 (by decide))).trans v0) (fun c q1 q2 q3 => a2.1 c q2)
    refine ⟨d1, op_of pl_X7_promiseOf (Nat.le_of_ble_eq_true rfl) ?_, r1, r2.trans (d2_eq _ _ _ _), fc_tr (fc_d2 (fc_refl d) (by decide)) r3⟩
    refine sw_aload_n (i := 0) dX7_promiseOf_0 rfl rfl ?_
    refine sw_aload_n (i := 0) dX7_promiseOf_1 rfl rfl ?_
    refine sw_iload_n (i := 1) dX7_promiseOf_2 rfl rfl ?_
    refine px_Vx mv_X7_119 (A1_X7_isPromise (by rw [hV]; exact okM) (by rw [hV]; exact hq)) rfl rfl (Nat.le_of_ble_eq_true rfl) (Nat.le_of_ble_eq_true rfl) ko_65 (Nat.le_of_ble_eq_true rfl) dX7_promiseOf_3 ?_
    refine sw_if_ne (tgt := 13) dX7_promiseOf_6 rfl (fun _ => ?_) (fun h9 => absurd h9 (by decide))
    refine sw_iload_n (i := 2) dX7_promiseOf_13 rfl rfl ?_
    refine sw_ic 0 dX7_promiseOf_14 ?_
    refine sw_ins (pc2 := 15) rfl rfl ?_
    refine sw_ic 4 dX7_promiseOf_15 ?_
    refine px_Sx ms_X7_39 (A1_X7_in (in_a (k := 4) (by decide) hk)) rfl rfl (Nat.le_of_ble_eq_true rfl) (Nat.le_of_ble_eq_true rfl) (Nat.le_of_ble_eq_true rfl) dX7_promiseOf_16 ?_
    refine sw_if_eq (tgt := 26) dX7_promiseOf_19 rfl (fun h9 => absurd h9 (by decide)) (fun _ => ?_)
    refine sw_ic 0 dX7_promiseOf_22 ?_
    refine sw_goto (tgt := 27) dX7_promiseOf_23 rfl ?_
    refine px_Vx mv_X7_92 A1_X7_holds rfl rfl (Nat.le_of_ble_eq_true rfl) (Nat.le_of_ble_eq_true rfl) ko_65 (Nat.le_of_ble_eq_true rfl) dX7_promiseOf_27 ?_
    refine sw_if_ne (tgt := 37) dX7_promiseOf_30 rfl (fun _ => ?_) (fun h9 => absurd h9 (by decide))
    refine sw_iload_n (i := 2) dX7_promiseOf_37 rfl rfl ?_
    refine sw_ins (pc2 := 38) rfl rfl ?_
    refine sw_ic 4 dX7_promiseOf_38 ?_
    refine sw_ic_ne (tgt := 50) dX7_promiseOf_39 rfl (fun h9 => absurd (by decide) h9) (fun _ => ?_)
    refine sw_aload_n (i := 0) dX7_promiseOf_42 rfl rfl ?_
    refine sw_iload_n (i := 1) dX7_promiseOf_43 rfl rfl ?_
    refine px_Vx mv_X7_81 a1 rfl rfl (Nat.le_of_ble_eq_true rfl) (Nat.le_of_ble_eq_true rfl) ko_65 (Nat.le_of_ble_eq_true rfl) dX7_promiseOf_44 ?_
    refine sw_goto (tgt := 56) dX7_promiseOf_47 rfl ?_
    exact sw_ireturn rfl dX7_promiseOf_56
  · have g0 := A_X7_of (d := d2 d 65 7 (nI 0)) (r := r) (J := J) (q := q) (c := k) (by omega) (by omega)
    rw [v0] at g0
    rw [show pro V q k = V (51 + (q * 4 + k)) from if_pos (by omega)]
    refine ⟨d2 d 65 7 (nI 0), op_of pl_X7_promiseOf (Nat.le_of_ble_eq_true rfl) ?_, h0, d2_eq _ _ _ _, fc_d2 (fc_refl d) (by decide)⟩
    refine sw_aload_n (i := 0) dX7_promiseOf_0 rfl rfl ?_
    refine sw_aload_n (i := 0) dX7_promiseOf_1 rfl rfl ?_
    refine sw_iload_n (i := 1) dX7_promiseOf_2 rfl rfl ?_
    refine px_Vx mv_X7_119 (A1_X7_isPromise (by rw [hV]; exact okM) (by rw [hV]; exact hq)) rfl rfl (Nat.le_of_ble_eq_true rfl) (Nat.le_of_ble_eq_true rfl) ko_65 (Nat.le_of_ble_eq_true rfl) dX7_promiseOf_3 ?_
    refine sw_if_ne (tgt := 13) dX7_promiseOf_6 rfl (fun _ => ?_) (fun h9 => absurd h9 (by decide))
    refine sw_iload_n (i := 2) dX7_promiseOf_13 rfl rfl ?_
    refine sw_ic 0 dX7_promiseOf_14 ?_
    refine sw_ins (pc2 := 15) rfl rfl ?_
    refine sw_ic 4 dX7_promiseOf_15 ?_
    refine px_Sx ms_X7_39 (A1_X7_in (in_a (k := 4) (by decide) hk)) rfl rfl (Nat.le_of_ble_eq_true rfl) (Nat.le_of_ble_eq_true rfl) (Nat.le_of_ble_eq_true rfl) dX7_promiseOf_16 ?_
    refine sw_if_eq (tgt := 26) dX7_promiseOf_19 rfl (fun h9 => absurd h9 (by decide)) (fun _ => ?_)
    refine sw_ic 0 dX7_promiseOf_22 ?_
    refine sw_goto (tgt := 27) dX7_promiseOf_23 rfl ?_
    refine px_Vx mv_X7_92 A1_X7_holds rfl rfl (Nat.le_of_ble_eq_true rfl) (Nat.le_of_ble_eq_true rfl) ko_65 (Nat.le_of_ble_eq_true rfl) dX7_promiseOf_27 ?_
    refine sw_if_ne (tgt := 37) dX7_promiseOf_30 rfl (fun _ => ?_) (fun h9 => absurd h9 (by decide))
    refine sw_iload_n (i := 2) dX7_promiseOf_37 rfl rfl ?_
    refine sw_ins (pc2 := 38) rfl rfl ?_
    refine sw_ic 4 dX7_promiseOf_38 ?_
    refine sw_ic_ne (tgt := 50) dX7_promiseOf_39 rfl (fun _ => ?_) (fun h9 => absurd h9 (fun z => c4 ((nI_eq (by omega) (by decide)).mp z)))
    refine sw_aload_n (i := 0) dX7_promiseOf_50 rfl rfl ?_
    refine sw_iload_n (i := 1) dX7_promiseOf_51 rfl rfl ?_
    refine sw_iload_n (i := 2) dX7_promiseOf_52 rfl rfl ?_
    refine px_Vx mv_X7_61 g0 rfl rfl (Nat.le_of_ble_eq_true rfl) (Nat.le_of_ble_eq_true rfl) ko_65 (Nat.le_of_ble_eq_true rfl) dX7_promiseOf_53 ?_
    exact sw_ireturn rfl dX7_promiseOf_56
set_option maxRecDepth 100000 in
set_option maxHeartbeats 4000000 in
theorem N1_owed {d : Nat → Nat → Int32} {r : Nat → Nat → Option Nat} {J : Nat → Nat → Int64} {V : Nat → Int32} {n : Nat} {H S : Nat → Nat → Int32} {t : Nat → Bool} {T : Nat → Int32} {tl : Nat} (h : RM d V n H S t T tl) (iv : IV V n H S t T tl) {x y : Int32} (hx : x < 0 ∨ ¬ x < nI 8) : ∃ d1, OP kX7_owed yX7_owed 2 [.ref 65, .int x, .int y] d r J (some (.int (nI 0))) d1 r J ∧ RM d1 V n H S t T tl ∧ d1 65 7 = nI 1 ∧ fc d d1 := by
  obtain ⟨okP, okM, okT9, okC, okW, okD⟩ := id iv.1
  have hV : mV d = V := h.2.1
  have hm8 := okM.2
  refine ⟨d2 d 65 7 (nI 1), op_of pl_X7_owed (Nat.le_of_ble_eq_true rfl) ?_, RM_th h, d2_eq _ _ _ _, fc_d2 (fc_refl d) (by decide)⟩
  refine sw_aload_n (i := 0) dX7_owed_0 rfl rfl ?_
  refine sw_iload_n (i := 1) dX7_owed_1 rfl rfl ?_
  refine px_Sx ms_X7_88 (A0_X7_isIslander hx) rfl rfl (Nat.le_of_ble_eq_true rfl) (Nat.le_of_ble_eq_true rfl) (Nat.le_of_ble_eq_true rfl) dX7_owed_2 ?_
  refine sw_if_eq (tgt := 19) dX7_owed_5 rfl (fun _ => ?_) (fun h9 => absurd (by decide) h9)
  refine sw_ic 1 dX7_owed_19 ?_
  refine px_Vx mv_X7_92 (A0_X7_holds (k := 1) (by decide) (by decide)) rfl rfl (Nat.le_of_ble_eq_true rfl) (Nat.le_of_ble_eq_true rfl) ko_65 (Nat.le_of_ble_eq_true rfl) dX7_owed_20 ?_
  refine sw_if_eq (tgt := 35) dX7_owed_23 rfl (fun _ => ?_) (fun h9 => absurd (by decide) h9)
  refine sw_ins (pc2 := 35) rfl rfl ?_
  refine sw_ic 0 dX7_owed_35 ?_
  exact sw_ireturn rfl dX7_owed_36
set_option maxRecDepth 100000 in
set_option maxHeartbeats 4000000 in
theorem N2_owed {d : Nat → Nat → Int32} {r : Nat → Nat → Option Nat} {J : Nat → Nat → Int64} {V : Nat → Int32} {n : Nat} {H S : Nat → Nat → Int32} {t : Nat → Bool} {T : Nat → Int32} {tl : Nat} (h : RM d V n H S t T tl) (iv : IV V n H S t T tl) {a : Nat} {y : Int32} (ha : a < 8) (hy : y < 0 ∨ ¬ y < nI 8) : ∃ d1, OP kX7_owed yX7_owed 2 [.ref 65, .int (nI a), .int y] d r J (some (.int (nI 0))) d1 r J ∧ RM d1 V n H S t T tl ∧ d1 65 7 = nI 1 ∧ fc d d1 := by
  obtain ⟨okP, okM, okT9, okC, okW, okD⟩ := id iv.1
  have hV : mV d = V := h.2.1
  have hm8 := okM.2
  refine ⟨d2 d 65 7 (nI 1), op_of pl_X7_owed (Nat.le_of_ble_eq_true rfl) ?_, RM_th h, d2_eq _ _ _ _, fc_d2 (fc_refl d) (by decide)⟩
  refine sw_aload_n (i := 0) dX7_owed_0 rfl rfl ?_
  refine sw_iload_n (i := 1) dX7_owed_1 rfl rfl ?_
  refine px_Sx ms_X7_88 (A1_X7_isIslander ha) rfl rfl (Nat.le_of_ble_eq_true rfl) (Nat.le_of_ble_eq_true rfl) (Nat.le_of_ble_eq_true rfl) dX7_owed_2 ?_
  refine sw_if_eq (tgt := 19) dX7_owed_5 rfl (fun h9 => absurd h9 (by decide)) (fun _ => ?_)
  refine sw_iload_n (i := 2) dX7_owed_8 rfl rfl ?_
  refine px_Sx ms_X7_88 (A0_X7_isIslander hy) rfl rfl (Nat.le_of_ble_eq_true rfl) (Nat.le_of_ble_eq_true rfl) (Nat.le_of_ble_eq_true rfl) dX7_owed_9 ?_
  refine sw_if_eq (tgt := 19) dX7_owed_12 rfl (fun _ => ?_) (fun h9 => absurd (by decide) h9)
  refine sw_ins (pc2 := 19) rfl rfl ?_
  refine sw_ic 1 dX7_owed_19 ?_
  refine px_Vx mv_X7_92 (A0_X7_holds (k := 1) (by decide) (by decide)) rfl rfl (Nat.le_of_ble_eq_true rfl) (Nat.le_of_ble_eq_true rfl) ko_65 (Nat.le_of_ble_eq_true rfl) dX7_owed_20 ?_
  refine sw_if_eq (tgt := 35) dX7_owed_23 rfl (fun _ => ?_) (fun h9 => absurd (by decide) h9)
  refine sw_ic 0 dX7_owed_35 ?_
  exact sw_ireturn rfl dX7_owed_36
set_option maxRecDepth 100000 in
set_option maxHeartbeats 4000000 in
theorem M_owed {d : Nat → Nat → Int32} {r : Nat → Nat → Option Nat} {J : Nat → Nat → Int64} {V : Nat → Int32} {n : Nat} {H S : Nat → Nat → Int32} {t : Nat → Bool} {T : Nat → Int32} {tl : Nat} (h : RM d V n H S t T tl) (iv : IV V n H S t T tl) {a b : Nat} (ha : a < 8) (hb : b < 8) : ∃ d1, OP kX7_owed yX7_owed 2 [.ref 65, .int (nI a), .int (nI b)] d r J (some (.int (owd V a b))) d1 r J ∧ RM d1 V n H S t T tl ∧ d1 65 7 = nI 0 ∧ fc d d1 := by
  obtain ⟨okP, okM, okT9, okC, okW, okD⟩ := id iv.1
  have hV : mV d = V := h.2.1
  have hm8 := okM.2
  have h0 := RM_th (x := nI 0) h
  have v0 : mV (d2 d 65 7 (nI 0)) = V := h0.2.1
  have g0 := A2_X7_sums (d := d2 d 65 7 (nI 0)) (r := r) (J := J) v0 okM ha hb
  refine ⟨d2 d 65 7 (nI 0), op_of pl_X7_owed (Nat.le_of_ble_eq_true rfl) ?_, h0, d2_eq _ _ _ _, fc_d2 (fc_refl d) (by decide)⟩
  refine sw_aload_n (i := 0) dX7_owed_0 rfl rfl ?_
  refine sw_iload_n (i := 1) dX7_owed_1 rfl rfl ?_
  refine px_Sx ms_X7_88 (A1_X7_isIslander ha) rfl rfl (Nat.le_of_ble_eq_true rfl) (Nat.le_of_ble_eq_true rfl) (Nat.le_of_ble_eq_true rfl) dX7_owed_2 ?_
  refine sw_if_eq (tgt := 19) dX7_owed_5 rfl (fun h9 => absurd h9 (by decide)) (fun _ => ?_)
  refine sw_iload_n (i := 2) dX7_owed_8 rfl rfl ?_
  refine px_Sx ms_X7_88 (A1_X7_isIslander hb) rfl rfl (Nat.le_of_ble_eq_true rfl) (Nat.le_of_ble_eq_true rfl) (Nat.le_of_ble_eq_true rfl) dX7_owed_9 ?_
  refine sw_if_eq (tgt := 19) dX7_owed_12 rfl (fun h9 => absurd h9 (by decide)) (fun _ => ?_)
  refine sw_ins (pc2 := 15) rfl rfl ?_
  refine sw_ic 0 dX7_owed_15 ?_
  refine sw_goto (tgt := 20) dX7_owed_16 rfl ?_
  refine px_Vx mv_X7_92 A1_X7_holds rfl rfl (Nat.le_of_ble_eq_true rfl) (Nat.le_of_ble_eq_true rfl) ko_65 (Nat.le_of_ble_eq_true rfl) dX7_owed_20 ?_
  refine sw_if_eq (tgt := 35) dX7_owed_23 rfl (fun h9 => absurd h9 (by decide)) (fun _ => ?_)
  refine sw_aload_n (i := 0) dX7_owed_26 rfl rfl ?_
  refine sw_iload_n (i := 1) dX7_owed_27 rfl rfl ?_
  refine sw_iload_n (i := 2) dX7_owed_28 rfl rfl ?_
  refine px_Vx mv_X7_170 g0 rfl rfl (Nat.le_of_ble_eq_true rfl) (Nat.le_of_ble_eq_true rfl) ko_65 (Nat.le_of_ble_eq_true rfl) dX7_owed_29 ?_
  refine sw_ins (pc2 := 32) rfl rfl ?_
  refine sw_goto (tgt := 36) dX7_owed_32 rfl ?_
  exact sw_ireturn rfl dX7_owed_36
set_option maxRecDepth 100000 in
set_option maxHeartbeats 4000000 in
theorem N_count {d : Nat → Nat → Int32} {r : Nat → Nat → Option Nat} {J : Nat → Nat → Int64} {V : Nat → Int32} {n : Nat} {H S : Nat → Nat → Int32} {t : Nat → Bool} {T : Nat → Int32} {tl : Nat} (h : RM d V n H S t T tl) (iv : IV V n H S t T tl) {y : Int32} (hy : y < 0 ∨ ¬ y < nI 10) : ∃ d1, OP kX7_count yX7_count 2 [.ref 65, .int y] d r J (some (.int (nI 0))) d1 r J ∧ RM d1 V n H S t T tl ∧ d1 65 7 = nI 1 ∧ fc d d1 := by
  obtain ⟨okP, okM, okT9, okC, okW, okD⟩ := id iv.1
  have hV : mV d = V := h.2.1
  have hm8 := okM.2
  refine ⟨d2 d 65 7 (nI 1), op_of pl_X7_count (Nat.le_of_ble_eq_true rfl) ?_, RM_th h, d2_eq _ _ _ _, fc_d2 (fc_refl d) (by decide)⟩
  refine sw_aload_n (i := 0) dX7_count_0 rfl rfl ?_
  refine sw_iload_n (i := 1) dX7_count_1 rfl rfl ?_
  refine sw_ic 0 dX7_count_2 ?_
  refine sw_bi 9 dX7_count_3 (by decide +kernel) ?_
  refine px_Sx ms_X7_39 (A0_X7_in (in_8 (k := 9) (by decide) hy)) rfl rfl (Nat.le_of_ble_eq_true rfl) (Nat.le_of_ble_eq_true rfl) (Nat.le_of_ble_eq_true rfl) dX7_count_5 ?_
  refine sw_if_eq (tgt := 15) dX7_count_8 rfl (fun _ => ?_) (fun h9 => absurd (by decide) h9)
  refine sw_ic 1 dX7_count_15 ?_
  refine sw_ins (pc2 := 16) rfl rfl ?_
  refine px_Vx mv_X7_92 (A0_X7_holds (k := 1) (by decide) (by decide)) rfl rfl (Nat.le_of_ble_eq_true rfl) (Nat.le_of_ble_eq_true rfl) ko_65 (Nat.le_of_ble_eq_true rfl) dX7_count_16 ?_
  refine sw_if_eq (tgt := 30) dX7_count_19 rfl (fun _ => ?_) (fun h9 => absurd (by decide) h9)
  refine sw_ic 0 dX7_count_30 ?_
  exact sw_ireturn rfl dX7_count_31
set_option maxRecDepth 100000 in
set_option maxHeartbeats 4000000 in
theorem M_count {d : Nat → Nat → Int32} {r : Nat → Nat → Option Nat} {J : Nat → Nat → Int64} {V : Nat → Int32} {n : Nat} {H S : Nat → Nat → Int32} {t : Nat → Bool} {T : Nat → Int32} {tl : Nat} (h : RM d V n H S t T tl) (iv : IV V n H S t T tl) {k : Nat} (hk : k < 10) : ∃ d1, OP kX7_count yX7_count 2 [.ref 65, .int (nI k)] d r J (some (.int (cnt V n k))) d1 r J ∧ RM d1 V n H S t T tl ∧ d1 65 7 = nI 0 ∧ fc d d1 := by
  obtain ⟨okP, okM, okT9, okC, okW, okD⟩ := id iv.1
  have hV : mV d = V := h.2.1
  have hm8 := okM.2
  have h0 := RM_th (x := nI 0) h
  have v0 : mV (d2 d 65 7 (nI 0)) = V := h0.2.1
  have g0 := A_X7_countTold (d := d2 d 65 7 (nI 0)) (r := r) (J := J) v0 h0.2.2.1 hk
  refine ⟨d2 d 65 7 (nI 0), op_of pl_X7_count (Nat.le_of_ble_eq_true rfl) ?_, h0, d2_eq _ _ _ _, fc_d2 (fc_refl d) (by decide)⟩
  refine sw_aload_n (i := 0) dX7_count_0 rfl rfl ?_
  refine sw_iload_n (i := 1) dX7_count_1 rfl rfl ?_
  refine sw_ic 0 dX7_count_2 ?_
  refine sw_bi 9 dX7_count_3 (by decide +kernel) ?_
  refine px_Sx ms_X7_39 (A1_X7_in (in_a (k := 9) (by decide) (by omega))) rfl rfl (Nat.le_of_ble_eq_true rfl) (Nat.le_of_ble_eq_true rfl) (Nat.le_of_ble_eq_true rfl) dX7_count_5 ?_
  refine sw_if_eq (tgt := 15) dX7_count_8 rfl (fun h9 => absurd h9 (by decide)) (fun _ => ?_)
  refine sw_ic 0 dX7_count_11 ?_
  refine sw_ins (pc2 := 12) rfl rfl ?_
  refine sw_goto (tgt := 16) dX7_count_12 rfl ?_
  refine px_Vx mv_X7_92 A1_X7_holds rfl rfl (Nat.le_of_ble_eq_true rfl) (Nat.le_of_ble_eq_true rfl) ko_65 (Nat.le_of_ble_eq_true rfl) dX7_count_16 ?_
  refine sw_if_eq (tgt := 30) dX7_count_19 rfl (fun h9 => absurd h9 (by decide)) (fun _ => ?_)
  refine sw_aload_n (i := 0) dX7_count_22 rfl rfl ?_
  refine sw_iload_n (i := 1) dX7_count_23 rfl rfl ?_
  refine px_Vx mv_X7_180 g0 rfl rfl (Nat.le_of_ble_eq_true rfl) (Nat.le_of_ble_eq_true rfl) ko_65 (Nat.le_of_ble_eq_true rfl) dX7_count_24 ?_
  refine sw_goto (tgt := 31) dX7_count_27 rfl ?_
  exact sw_ireturn rfl dX7_count_31
set_option maxRecDepth 100000 in
set_option maxHeartbeats 4000000 in
theorem N1_where {d : Nat → Nat → Int32} {r : Nat → Nat → Option Nat} {J : Nat → Nat → Int64} {V : Nat → Int32} {n : Nat} {H S : Nat → Nat → Int32} {t : Nat → Bool} {T : Nat → Int32} {tl : Nat} (h : RM d V n H S t T tl) (iv : IV V n H S t T tl) {x y z : Int32} (hx : x < 0 ∨ ¬ x < nI 8) : ∃ d1, OP kX7_where yX7_where 2 [.ref 65, .int x, .int y, .int z] d r J (some (.int (nI 0))) d1 r J ∧ RM d1 V n H S t T tl ∧ d1 65 7 = nI 1 ∧ fc d d1 := by
  obtain ⟨okP, okM, okT9, okC, okW, okD⟩ := id iv.1
  have hV : mV d = V := h.2.1
  have hm8 := okM.2
  refine ⟨d2 d 65 7 (nI 1), op_of pl_X7_where (Nat.le_of_ble_eq_true rfl) ?_, RM_th h, d2_eq _ _ _ _, fc_d2 (fc_refl d) (by decide)⟩
  refine sw_aload_n (i := 0) dX7_where_0 rfl rfl ?_
  refine sw_iload_n (i := 1) dX7_where_1 rfl rfl ?_
  refine px_Sx ms_X7_88 (A0_X7_isIslander hx) rfl rfl (Nat.le_of_ble_eq_true rfl) (Nat.le_of_ble_eq_true rfl) (Nat.le_of_ble_eq_true rfl) dX7_where_2 ?_
  refine sw_if_ne (tgt := 12) dX7_where_5 rfl (fun h9 => absurd (by decide) h9) (fun _ => ?_)
  refine sw_ic 1 dX7_where_8 ?_
  refine sw_goto (tgt := 37) dX7_where_9 rfl ?_
  refine px_Vx mv_X7_92 (A0_X7_holds (k := 1) (by decide) (by decide)) rfl rfl (Nat.le_of_ble_eq_true rfl) (Nat.le_of_ble_eq_true rfl) ko_65 (Nat.le_of_ble_eq_true rfl) dX7_where_37 ?_
  refine sw_ins (pc2 := 40) rfl rfl ?_
  refine sw_if_eq (tgt := 52) dX7_where_40 rfl (fun _ => ?_) (fun h9 => absurd (by decide) h9)
  refine sw_ic 0 dX7_where_52 ?_
  exact sw_ireturn rfl dX7_where_53
set_option maxRecDepth 100000 in
set_option maxHeartbeats 4000000 in
theorem N2_where {d : Nat → Nat → Int32} {r : Nat → Nat → Option Nat} {J : Nat → Nat → Int64} {V : Nat → Int32} {n : Nat} {H S : Nat → Nat → Int32} {t : Nat → Bool} {T : Nat → Int32} {tl : Nat} (h : RM d V n H S t T tl) (iv : IV V n H S t T tl) {a : Nat} {y z : Int32} (ha : a < 8) (hy : y < nI 0 ∨ ¬ y ≤ nI 1000) : ∃ d1, OP kX7_where yX7_where 2 [.ref 65, .int (nI a), .int y, .int z] d r J (some (.int (nI 0))) d1 r J ∧ RM d1 V n H S t T tl ∧ d1 65 7 = nI 2 ∧ fc d d1 := by
  obtain ⟨okP, okM, okT9, okC, okW, okD⟩ := id iv.1
  have hV : mV d = V := h.2.1
  have hm8 := okM.2
  refine ⟨d2 d 65 7 (nI 2), op_of pl_X7_where (Nat.le_of_ble_eq_true rfl) ?_, RM_th h, d2_eq _ _ _ _, fc_d2 (fc_refl d) (by decide)⟩
  refine sw_aload_n (i := 0) dX7_where_0 rfl rfl ?_
  refine sw_iload_n (i := 1) dX7_where_1 rfl rfl ?_
  refine px_Sx ms_X7_88 (A1_X7_isIslander ha) rfl rfl (Nat.le_of_ble_eq_true rfl) (Nat.le_of_ble_eq_true rfl) (Nat.le_of_ble_eq_true rfl) dX7_where_2 ?_
  refine sw_if_ne (tgt := 12) dX7_where_5 rfl (fun _ => ?_) (fun h9 => absurd h9 (by decide))
  refine sw_iload_n (i := 2) dX7_where_12 rfl rfl ?_
  refine sw_ic 0 dX7_where_13 ?_
  refine sw_si 1000 dX7_where_14 (by decide +kernel) ?_
  refine sw_ins (pc2 := 17) rfl rfl ?_
  refine px_Sx ms_X7_39 (A0_X7_in (in_r (lo := 0) (hi := 1000) hy)) rfl rfl (Nat.le_of_ble_eq_true rfl) (Nat.le_of_ble_eq_true rfl) (Nat.le_of_ble_eq_true rfl) dX7_where_17 ?_
  refine sw_if_eq (tgt := 36) dX7_where_20 rfl (fun _ => ?_) (fun h9 => absurd (by decide) h9)
  refine sw_ic 2 dX7_where_36 ?_
  refine px_Vx mv_X7_92 (A0_X7_holds (k := 2) (by decide) (by decide)) rfl rfl (Nat.le_of_ble_eq_true rfl) (Nat.le_of_ble_eq_true rfl) ko_65 (Nat.le_of_ble_eq_true rfl) dX7_where_37 ?_
  refine sw_if_eq (tgt := 52) dX7_where_40 rfl (fun _ => ?_) (fun h9 => absurd (by decide) h9)
  refine sw_ic 0 dX7_where_52 ?_
  exact sw_ireturn rfl dX7_where_53
set_option maxRecDepth 100000 in
set_option maxHeartbeats 4000000 in
theorem N3_where {d : Nat → Nat → Int32} {r : Nat → Nat → Option Nat} {J : Nat → Nat → Int64} {V : Nat → Int32} {n : Nat} {H S : Nat → Nat → Int32} {t : Nat → Bool} {T : Nat → Int32} {tl : Nat} (h : RM d V n H S t T tl) (iv : IV V n H S t T tl) {a k : Nat} {z : Int32} (ha : a < 8) (hk : k ≤ 1000) (hz : z < nI 0 ∨ ¬ z ≤ nI 1) : ∃ d1, OP kX7_where yX7_where 2 [.ref 65, .int (nI a), .int (nI k), .int z] d r J (some (.int (nI 0))) d1 r J ∧ RM d1 V n H S t T tl ∧ d1 65 7 = nI 2 ∧ fc d d1 := by
  obtain ⟨okP, okM, okT9, okC, okW, okD⟩ := id iv.1
  have hV : mV d = V := h.2.1
  have hm8 := okM.2
  refine ⟨d2 d 65 7 (nI 2), op_of pl_X7_where (Nat.le_of_ble_eq_true rfl) ?_, RM_th h, d2_eq _ _ _ _, fc_d2 (fc_refl d) (by decide)⟩
  refine sw_aload_n (i := 0) dX7_where_0 rfl rfl ?_
  refine sw_iload_n (i := 1) dX7_where_1 rfl rfl ?_
  refine px_Sx ms_X7_88 (A1_X7_isIslander ha) rfl rfl (Nat.le_of_ble_eq_true rfl) (Nat.le_of_ble_eq_true rfl) (Nat.le_of_ble_eq_true rfl) dX7_where_2 ?_
  refine sw_if_ne (tgt := 12) dX7_where_5 rfl (fun _ => ?_) (fun h9 => absurd h9 (by decide))
  refine sw_iload_n (i := 2) dX7_where_12 rfl rfl ?_
  refine sw_ic 0 dX7_where_13 ?_
  refine sw_si 1000 dX7_where_14 (by decide +kernel) ?_
  refine sw_ins (pc2 := 17) rfl rfl ?_
  refine px_Sx ms_X7_39 (A1_X7_in (in_s (lo := 0) (hi := 1000) (Nat.zero_le _) hk (by decide))) rfl rfl (Nat.le_of_ble_eq_true rfl) (Nat.le_of_ble_eq_true rfl) (Nat.le_of_ble_eq_true rfl) dX7_where_17 ?_
  refine sw_if_eq (tgt := 36) dX7_where_20 rfl (fun h9 => absurd h9 (by decide)) (fun _ => ?_)
  refine sw_iload_n (i := 3) dX7_where_23 rfl rfl ?_
  refine sw_ic 0 dX7_where_24 ?_
  refine sw_ic 1 dX7_where_25 ?_
  refine px_Sx ms_X7_39 (A0_X7_in (in_r (lo := 0) (hi := 1) hz)) rfl rfl (Nat.le_of_ble_eq_true rfl) (Nat.le_of_ble_eq_true rfl) (Nat.le_of_ble_eq_true rfl) dX7_where_26 ?_
  refine sw_if_eq (tgt := 36) dX7_where_29 rfl (fun _ => ?_) (fun h9 => absurd (by decide) h9)
  refine sw_ic 2 dX7_where_36 ?_
  refine sw_ins (pc2 := 37) rfl rfl ?_
  refine px_Vx mv_X7_92 (A0_X7_holds (k := 2) (by decide) (by decide)) rfl rfl (Nat.le_of_ble_eq_true rfl) (Nat.le_of_ble_eq_true rfl) ko_65 (Nat.le_of_ble_eq_true rfl) dX7_where_37 ?_
  refine sw_if_eq (tgt := 52) dX7_where_40 rfl (fun _ => ?_) (fun h9 => absurd (by decide) h9)
  refine sw_ic 0 dX7_where_52 ?_
  exact sw_ireturn rfl dX7_where_53
set_option maxRecDepth 100000 in
set_option maxHeartbeats 4000000 in
theorem M_where {d : Nat → Nat → Int32} {r : Nat → Nat → Option Nat} {J : Nat → Nat → Int64} {V : Nat → Int32} {n : Nat} {H S : Nat → Nat → Int32} {t : Nat → Bool} {T : Nat → Int32} {tl : Nat} (h : RM d V n H S t T tl) (iv : IV V n H S t T tl) {a k w : Nat} (ha : a < 8) (hk : k ≤ 1000) (hw : w ≤ 1) : ∃ d1, OP kX7_where yX7_where 2 [.ref 65, .int (nI a), .int (nI k), .int (nI w)] d r J (some (.int (nI (alg V a k)))) d1 r J ∧ RM d1 V n H S t T tl ∧ d1 65 7 = nI 0 ∧ fc d d1 := by
  obtain ⟨okP, okM, okT9, okC, okW, okD⟩ := id iv.1
  have hV : mV d = V := h.2.1
  have hm8 := okM.2
  have h0 := RM_th (x := nI 0) h
  have v0 : mV (d2 d 65 7 (nI 0)) = V := h0.2.1
  have g0 := A_X7_whereIs (d := d2 d 65 7 (nI 0)) (r := r) (J := J) (a := a) (n := k) (by rw [v0]; exact okP) ha (by omega)
  rw [v0] at g0
  refine ⟨d2 d 65 7 (nI 0), op_of pl_X7_where (Nat.le_of_ble_eq_true rfl) ?_, h0, d2_eq _ _ _ _, fc_d2 (fc_refl d) (by decide)⟩
  refine sw_aload_n (i := 0) dX7_where_0 rfl rfl ?_
  refine sw_iload_n (i := 1) dX7_where_1 rfl rfl ?_
  refine px_Sx ms_X7_88 (A1_X7_isIslander ha) rfl rfl (Nat.le_of_ble_eq_true rfl) (Nat.le_of_ble_eq_true rfl) (Nat.le_of_ble_eq_true rfl) dX7_where_2 ?_
  refine sw_if_ne (tgt := 12) dX7_where_5 rfl (fun _ => ?_) (fun h9 => absurd h9 (by decide))
  refine sw_iload_n (i := 2) dX7_where_12 rfl rfl ?_
  refine sw_ic 0 dX7_where_13 ?_
  refine sw_si 1000 dX7_where_14 (by decide +kernel) ?_
  refine sw_ins (pc2 := 17) rfl rfl ?_
  refine px_Sx ms_X7_39 (A1_X7_in (in_s (lo := 0) (hi := 1000) (Nat.zero_le _) hk (by decide))) rfl rfl (Nat.le_of_ble_eq_true rfl) (Nat.le_of_ble_eq_true rfl) (Nat.le_of_ble_eq_true rfl) dX7_where_17 ?_
  refine sw_if_eq (tgt := 36) dX7_where_20 rfl (fun h9 => absurd h9 (by decide)) (fun _ => ?_)
  refine sw_iload_n (i := 3) dX7_where_23 rfl rfl ?_
  refine sw_ic 0 dX7_where_24 ?_
  refine sw_ic 1 dX7_where_25 ?_
  refine px_Sx ms_X7_39 (A1_X7_in (in_s (lo := 0) (hi := 1) (Nat.zero_le _) hw (by decide))) rfl rfl (Nat.le_of_ble_eq_true rfl) (Nat.le_of_ble_eq_true rfl) (Nat.le_of_ble_eq_true rfl) dX7_where_26 ?_
  refine sw_if_eq (tgt := 36) dX7_where_29 rfl (fun h9 => absurd h9 (by decide)) (fun _ => ?_)
  refine sw_ic 0 dX7_where_32 ?_
  refine sw_ins (pc2 := 33) rfl rfl ?_
  refine sw_goto (tgt := 37) dX7_where_33 rfl ?_
  refine px_Vx mv_X7_92 A1_X7_holds rfl rfl (Nat.le_of_ble_eq_true rfl) (Nat.le_of_ble_eq_true rfl) ko_65 (Nat.le_of_ble_eq_true rfl) dX7_where_37 ?_
  refine sw_if_eq (tgt := 52) dX7_where_40 rfl (fun h9 => absurd h9 (by decide)) (fun _ => ?_)
  refine sw_aload_n (i := 0) dX7_where_43 rfl rfl ?_
  refine sw_iload_n (i := 1) dX7_where_44 rfl rfl ?_
  refine sw_iload_n (i := 2) dX7_where_45 rfl rfl ?_
  refine px_Vx mv_X7_67 g0 rfl rfl (Nat.le_of_ble_eq_true rfl) (Nat.le_of_ble_eq_true rfl) ko_65 (Nat.le_of_ble_eq_true rfl) dX7_where_46 ?_
  refine sw_goto (tgt := 53) dX7_where_49 rfl ?_
  refine sw_ins (pc2 := 53) rfl rfl ?_
  exact sw_ireturn rfl dX7_where_53
set_option maxRecDepth 100000 in
set_option maxHeartbeats 4000000 in
theorem N_homeIn {d : Nat → Nat → Int32} {r : Nat → Nat → Option Nat} {J : Nat → Nat → Int64} {V : Nat → Int32} {n : Nat} {H S : Nat → Nat → Int32} {t : Nat → Bool} {T : Nat → Int32} {tl : Nat} (h : RM d V n H S t T tl) (iv : IV V n H S t T tl) {x : Int32} (hx : x < nI 0 ∨ ¬ x ≤ nI 1) : ∃ d1, OP kX7_homeIn yX7_homeIn 3 [.ref 65, .int x] d r J (some (.int (nI 0))) d1 r J ∧ RM d1 V n H S t T tl ∧ d1 65 7 = nI 1 ∧ fc d d1 := by
  obtain ⟨okP, okM, okT9, okC, okW, okD⟩ := id iv.1
  have hV : mV d = V := h.2.1
  have hm8 := okM.2
  refine ⟨d2 d 65 7 (nI 1), op_of pl_X7_homeIn (Nat.le_of_ble_eq_true rfl) ?_, RM_th h, d2_eq _ _ _ _, fc_d2 (fc_refl d) (by decide)⟩
  refine sw_aload_n (i := 0) dX7_homeIn_0 rfl rfl ?_
  refine sw_iload_n (i := 1) dX7_homeIn_1 rfl rfl ?_
  refine sw_ic 0 dX7_homeIn_2 ?_
  refine sw_ic 1 dX7_homeIn_3 ?_
  refine px_Sx ms_X7_39 (A0_X7_in (in_r (lo := 0) (hi := 1) hx)) rfl rfl (Nat.le_of_ble_eq_true rfl) (Nat.le_of_ble_eq_true rfl) (Nat.le_of_ble_eq_true rfl) dX7_homeIn_4 ?_
  refine sw_if_eq (tgt := 14) dX7_homeIn_7 rfl (fun _ => ?_) (fun h9 => absurd (by decide) h9)
  refine sw_ic 1 dX7_homeIn_14 ?_
  refine sw_ins (pc2 := 15) rfl rfl ?_
  refine px_Vx mv_X7_92 (A0_X7_holds (k := 1) (by decide) (by decide)) rfl rfl (Nat.le_of_ble_eq_true rfl) (Nat.le_of_ble_eq_true rfl) ko_65 (Nat.le_of_ble_eq_true rfl) dX7_homeIn_15 ?_
  refine sw_if_eq (tgt := 28) dX7_homeIn_18 rfl (fun _ => ?_) (fun h9 => absurd (by decide) h9)
  refine sw_ic 0 dX7_homeIn_28 ?_
  exact sw_ireturn rfl dX7_homeIn_29
set_option maxRecDepth 100000 in
set_option maxHeartbeats 4000000 in
theorem M_homeIn {d : Nat → Nat → Int32} {r : Nat → Nat → Option Nat} {J : Nat → Nat → Int64} {V : Nat → Int32} {n : Nat} {H S : Nat → Nat → Int32} {t : Nat → Bool} {T : Nat → Int32} {tl : Nat} (h : RM d V n H S t T tl) (iv : IV V n H S t T tl) {w : Nat} (hw : w ≤ 1) : ∃ d1, OP kX7_homeIn yX7_homeIn 3 [.ref 65, .int (nI w)] d r J (some (.int (nI (hm V)))) d1 r J ∧ RM d1 V n H S t T tl ∧ d1 65 7 = nI 0 ∧ fc d d1 := by
  obtain ⟨okP, okM, okT9, okC, okW, okD⟩ := id iv.1
  have hV : mV d = V := h.2.1
  have hm8 := okM.2
  have h0 := RM_th (x := nI 0) h
  have v0 : mV (d2 d 65 7 (nI 0)) = V := h0.2.1
  have g0 := A_X7_home (d := d2 d 65 7 (nI 0)) (r := r) (J := J) (by rw [v0]; exact okP)
  rw [v0] at g0
  refine ⟨d2 d 65 7 (nI 0), op_of pl_X7_homeIn (Nat.le_of_ble_eq_true rfl) ?_, h0, d2_eq _ _ _ _, fc_d2 (fc_refl d) (by decide)⟩
  refine sw_aload_n (i := 0) dX7_homeIn_0 rfl rfl ?_
  refine sw_iload_n (i := 1) dX7_homeIn_1 rfl rfl ?_
  refine sw_ic 0 dX7_homeIn_2 ?_
  refine sw_ic 1 dX7_homeIn_3 ?_
  refine px_Sx ms_X7_39 (A1_X7_in (in_s (lo := 0) (hi := 1) (Nat.zero_le _) hw (by decide))) rfl rfl (Nat.le_of_ble_eq_true rfl) (Nat.le_of_ble_eq_true rfl) (Nat.le_of_ble_eq_true rfl) dX7_homeIn_4 ?_
  refine sw_if_eq (tgt := 14) dX7_homeIn_7 rfl (fun h9 => absurd h9 (by decide)) (fun _ => ?_)
  refine sw_ic 0 dX7_homeIn_10 ?_
  refine sw_ins (pc2 := 11) rfl rfl ?_
  refine sw_goto (tgt := 15) dX7_homeIn_11 rfl ?_
  refine px_Vx mv_X7_92 A1_X7_holds rfl rfl (Nat.le_of_ble_eq_true rfl) (Nat.le_of_ble_eq_true rfl) ko_65 (Nat.le_of_ble_eq_true rfl) dX7_homeIn_15 ?_
  refine sw_if_eq (tgt := 28) dX7_homeIn_18 rfl (fun h9 => absurd h9 (by decide)) (fun _ => ?_)
  refine sw_aload_n (i := 0) dX7_homeIn_21 rfl rfl ?_
  refine px_Vx mv_X7_183 g0 rfl rfl (Nat.le_of_ble_eq_true rfl) (Nat.le_of_ble_eq_true rfl) ko_65 (Nat.le_of_ble_eq_true rfl) dX7_homeIn_22 ?_
  refine sw_goto (tgt := 29) dX7_homeIn_25 rfl ?_
  exact sw_ireturn rfl dX7_homeIn_29
set_option maxRecDepth 100000 in
set_option maxHeartbeats 4000000 in
theorem N1_fewest {d : Nat → Nat → Int32} {r : Nat → Nat → Option Nat} {J : Nat → Nat → Int64} {V : Nat → Int32} {n : Nat} {H S : Nat → Nat → Int32} {t : Nat → Bool} {T : Nat → Int32} {tl : Nat} (h : RM d V n H S t T tl) (iv : IV V n H S t T tl) {x y z : Int32} (hx : x < 0 ∨ ¬ x < nI 8) : ∃ d1, OP kX7_fewest yX7_fewest 4 [.ref 65, .int x, .int y, .int z] d r J (some (.int (nI 0))) d1 r J ∧ RM d1 V n H S t T tl ∧ d1 65 7 = nI 1 ∧ fc d d1 := by
  obtain ⟨okP, okM, okT9, okC, okW, okD⟩ := id iv.1
  have hV : mV d = V := h.2.1
  have hm8 := okM.2
  refine ⟨d2 d 65 7 (nI 1), op_of pl_X7_fewest (Nat.le_of_ble_eq_true rfl) ?_, RM_th h, d2_eq _ _ _ _, fc_d2 (fc_refl d) (by decide)⟩
  refine sw_aload_n (i := 0) dX7_fewest_0 rfl rfl ?_
  refine sw_iload_n (i := 1) dX7_fewest_1 rfl rfl ?_
  refine px_Sx ms_X7_88 (A0_X7_isIslander hx) rfl rfl (Nat.le_of_ble_eq_true rfl) (Nat.le_of_ble_eq_true rfl) (Nat.le_of_ble_eq_true rfl) dX7_fewest_2 ?_
  refine sw_if_ne (tgt := 12) dX7_fewest_5 rfl (fun h9 => absurd (by decide) h9) (fun _ => ?_)
  refine sw_ic 1 dX7_fewest_8 ?_
  refine sw_goto (tgt := 36) dX7_fewest_9 rfl ?_
  refine px_Vx mv_X7_92 (A0_X7_holds (k := 1) (by decide) (by decide)) rfl rfl (Nat.le_of_ble_eq_true rfl) (Nat.le_of_ble_eq_true rfl) ko_65 (Nat.le_of_ble_eq_true rfl) dX7_fewest_36 ?_
  refine sw_ins (pc2 := 39) rfl rfl ?_
  refine sw_if_eq (tgt := 51) dX7_fewest_39 rfl (fun _ => ?_) (fun h9 => absurd (by decide) h9)
  refine sw_ic 0 dX7_fewest_51 ?_
  exact sw_ireturn rfl dX7_fewest_52
set_option maxRecDepth 100000 in
set_option maxHeartbeats 4000000 in
theorem N2_fewest {d : Nat → Nat → Int32} {r : Nat → Nat → Option Nat} {J : Nat → Nat → Int64} {V : Nat → Int32} {n : Nat} {H S : Nat → Nat → Int32} {t : Nat → Bool} {T : Nat → Int32} {tl : Nat} (h : RM d V n H S t T tl) (iv : IV V n H S t T tl) {a : Nat} {y z : Int32} (ha : a < 8) (hy : y < nI 1 ∨ ¬ y ≤ nI 99) : ∃ d1, OP kX7_fewest yX7_fewest 4 [.ref 65, .int (nI a), .int y, .int z] d r J (some (.int (nI 0))) d1 r J ∧ RM d1 V n H S t T tl ∧ d1 65 7 = nI 2 ∧ fc d d1 := by
  obtain ⟨okP, okM, okT9, okC, okW, okD⟩ := id iv.1
  have hV : mV d = V := h.2.1
  have hm8 := okM.2
  refine ⟨d2 d 65 7 (nI 2), op_of pl_X7_fewest (Nat.le_of_ble_eq_true rfl) ?_, RM_th h, d2_eq _ _ _ _, fc_d2 (fc_refl d) (by decide)⟩
  refine sw_aload_n (i := 0) dX7_fewest_0 rfl rfl ?_
  refine sw_iload_n (i := 1) dX7_fewest_1 rfl rfl ?_
  refine px_Sx ms_X7_88 (A1_X7_isIslander ha) rfl rfl (Nat.le_of_ble_eq_true rfl) (Nat.le_of_ble_eq_true rfl) (Nat.le_of_ble_eq_true rfl) dX7_fewest_2 ?_
  refine sw_if_ne (tgt := 12) dX7_fewest_5 rfl (fun _ => ?_) (fun h9 => absurd h9 (by decide))
  refine sw_iload_n (i := 2) dX7_fewest_12 rfl rfl ?_
  refine sw_ic 1 dX7_fewest_13 ?_
  refine sw_bi 99 dX7_fewest_14 (by decide +kernel) ?_
  refine sw_ins (pc2 := 16) rfl rfl ?_
  refine px_Sx ms_X7_39 (A0_X7_in (in_r (lo := 1) (hi := 99) hy)) rfl rfl (Nat.le_of_ble_eq_true rfl) (Nat.le_of_ble_eq_true rfl) (Nat.le_of_ble_eq_true rfl) dX7_fewest_16 ?_
  refine sw_if_eq (tgt := 35) dX7_fewest_19 rfl (fun _ => ?_) (fun h9 => absurd (by decide) h9)
  refine sw_ic 2 dX7_fewest_35 ?_
  refine px_Vx mv_X7_92 (A0_X7_holds (k := 2) (by decide) (by decide)) rfl rfl (Nat.le_of_ble_eq_true rfl) (Nat.le_of_ble_eq_true rfl) ko_65 (Nat.le_of_ble_eq_true rfl) dX7_fewest_36 ?_
  refine sw_if_eq (tgt := 51) dX7_fewest_39 rfl (fun _ => ?_) (fun h9 => absurd (by decide) h9)
  refine sw_ic 0 dX7_fewest_51 ?_
  exact sw_ireturn rfl dX7_fewest_52
set_option maxRecDepth 100000 in
set_option maxHeartbeats 4000000 in
theorem N3_fewest {d : Nat → Nat → Int32} {r : Nat → Nat → Option Nat} {J : Nat → Nat → Int64} {V : Nat → Int32} {n : Nat} {H S : Nat → Nat → Int32} {t : Nat → Bool} {T : Nat → Int32} {tl : Nat} (h : RM d V n H S t T tl) (iv : IV V n H S t T tl) {a s : Nat} {z : Int32} (ha : a < 8) (hs : 1 ≤ s) (hs9 : s ≤ 99) (hz : z < nI 0 ∨ ¬ z ≤ nI 1) : ∃ d1, OP kX7_fewest yX7_fewest 4 [.ref 65, .int (nI a), .int (nI s), .int z] d r J (some (.int (nI 0))) d1 r J ∧ RM d1 V n H S t T tl ∧ d1 65 7 = nI 2 ∧ fc d d1 := by
  obtain ⟨okP, okM, okT9, okC, okW, okD⟩ := id iv.1
  have hV : mV d = V := h.2.1
  have hm8 := okM.2
  refine ⟨d2 d 65 7 (nI 2), op_of pl_X7_fewest (Nat.le_of_ble_eq_true rfl) ?_, RM_th h, d2_eq _ _ _ _, fc_d2 (fc_refl d) (by decide)⟩
  refine sw_aload_n (i := 0) dX7_fewest_0 rfl rfl ?_
  refine sw_iload_n (i := 1) dX7_fewest_1 rfl rfl ?_
  refine px_Sx ms_X7_88 (A1_X7_isIslander ha) rfl rfl (Nat.le_of_ble_eq_true rfl) (Nat.le_of_ble_eq_true rfl) (Nat.le_of_ble_eq_true rfl) dX7_fewest_2 ?_
  refine sw_if_ne (tgt := 12) dX7_fewest_5 rfl (fun _ => ?_) (fun h9 => absurd h9 (by decide))
  refine sw_iload_n (i := 2) dX7_fewest_12 rfl rfl ?_
  refine sw_ic 1 dX7_fewest_13 ?_
  refine sw_bi 99 dX7_fewest_14 (by decide +kernel) ?_
  refine sw_ins (pc2 := 16) rfl rfl ?_
  refine px_Sx ms_X7_39 (A1_X7_in (in_s (lo := 1) (hi := 99) hs hs9 (by decide))) rfl rfl (Nat.le_of_ble_eq_true rfl) (Nat.le_of_ble_eq_true rfl) (Nat.le_of_ble_eq_true rfl) dX7_fewest_16 ?_
  refine sw_if_eq (tgt := 35) dX7_fewest_19 rfl (fun h9 => absurd h9 (by decide)) (fun _ => ?_)
  refine sw_iload_n (i := 3) dX7_fewest_22 rfl rfl ?_
  refine sw_ic 0 dX7_fewest_23 ?_
  refine sw_ic 1 dX7_fewest_24 ?_
  refine px_Sx ms_X7_39 (A0_X7_in (in_r (lo := 0) (hi := 1) hz)) rfl rfl (Nat.le_of_ble_eq_true rfl) (Nat.le_of_ble_eq_true rfl) (Nat.le_of_ble_eq_true rfl) dX7_fewest_25 ?_
  refine sw_if_eq (tgt := 35) dX7_fewest_28 rfl (fun _ => ?_) (fun h9 => absurd (by decide) h9)
  refine sw_ic 2 dX7_fewest_35 ?_
  refine sw_ins (pc2 := 36) rfl rfl ?_
  refine px_Vx mv_X7_92 (A0_X7_holds (k := 2) (by decide) (by decide)) rfl rfl (Nat.le_of_ble_eq_true rfl) (Nat.le_of_ble_eq_true rfl) ko_65 (Nat.le_of_ble_eq_true rfl) dX7_fewest_36 ?_
  refine sw_if_eq (tgt := 51) dX7_fewest_39 rfl (fun _ => ?_) (fun h9 => absurd (by decide) h9)
  refine sw_ic 0 dX7_fewest_51 ?_
  exact sw_ireturn rfl dX7_fewest_52
set_option maxRecDepth 100000 in
set_option maxHeartbeats 4000000 in
theorem M_fewest {d : Nat → Nat → Int32} {r : Nat → Nat → Option Nat} {J : Nat → Nat → Int64} {V : Nat → Int32} {n : Nat} {H S : Nat → Nat → Int32} {t : Nat → Bool} {T : Nat → Int32} {tl : Nat} (h : RM d V n H S t T tl) (iv : IV V n H S t T tl) {a s w : Nat} (ha : a < 8) (hs : 1 ≤ s) (hs9 : s ≤ 99) (hw : w ≤ 1) : ∃ d1, OP kX7_fewest yX7_fewest 4 [.ref 65, .int (nI a), .int (nI s), .int (nI w)] d r J (some (.int (enc (wy V a s)))) d1 r J ∧ RM d1 V n H S t T tl ∧ d1 65 7 = nI 0 ∧ fc d d1 := by
  obtain ⟨okP, okM, okT9, okC, okW, okD⟩ := id iv.1
  have hV : mV d = V := h.2.1
  have hm8 := okM.2
  have h0 := RM_th (x := nI 0) h
  have v0 : mV (d2 d 65 7 (nI 0)) = V := h0.2.1
  obtain ⟨d1, a1, a2⟩ := A_X7_payFrom (d := d2 d 65 7 (nI 0)) (r := r) (J := J) (a := a) (s := s) (by rw [v0]; exact okC) (by rw [v0]; exact okW) ha hs9
  rw [v0] at a1
  obtain ⟨r1, r2, r3⟩ := RM_chg h0 ((mV_keep (a2.1 66 (by decide))).trans v0) (fun c q1 q2 q3 => a2.1 c q2)
  refine ⟨d1, op_of pl_X7_fewest (Nat.le_of_ble_eq_true rfl) ?_, r1, r2.trans (d2_eq _ _ _ _), fc_tr (fc_d2 (fc_refl d) (by decide)) r3⟩
  refine sw_aload_n (i := 0) dX7_fewest_0 rfl rfl ?_
  refine sw_iload_n (i := 1) dX7_fewest_1 rfl rfl ?_
  refine px_Sx ms_X7_88 (A1_X7_isIslander ha) rfl rfl (Nat.le_of_ble_eq_true rfl) (Nat.le_of_ble_eq_true rfl) (Nat.le_of_ble_eq_true rfl) dX7_fewest_2 ?_
  refine sw_if_ne (tgt := 12) dX7_fewest_5 rfl (fun _ => ?_) (fun h9 => absurd h9 (by decide))
  refine sw_iload_n (i := 2) dX7_fewest_12 rfl rfl ?_
  refine sw_ic 1 dX7_fewest_13 ?_
  refine sw_bi 99 dX7_fewest_14 (by decide +kernel) ?_
  refine sw_ins (pc2 := 16) rfl rfl ?_
  refine px_Sx ms_X7_39 (A1_X7_in (in_s (lo := 1) (hi := 99) hs hs9 (by decide))) rfl rfl (Nat.le_of_ble_eq_true rfl) (Nat.le_of_ble_eq_true rfl) (Nat.le_of_ble_eq_true rfl) dX7_fewest_16 ?_
  refine sw_if_eq (tgt := 35) dX7_fewest_19 rfl (fun h9 => absurd h9 (by decide)) (fun _ => ?_)
  refine sw_iload_n (i := 3) dX7_fewest_22 rfl rfl ?_
  refine sw_ic 0 dX7_fewest_23 ?_
  refine sw_ic 1 dX7_fewest_24 ?_
  refine px_Sx ms_X7_39 (A1_X7_in (in_s (lo := 0) (hi := 1) (Nat.zero_le _) hw (by decide))) rfl rfl (Nat.le_of_ble_eq_true rfl) (Nat.le_of_ble_eq_true rfl) (Nat.le_of_ble_eq_true rfl) dX7_fewest_25 ?_
  refine sw_if_eq (tgt := 35) dX7_fewest_28 rfl (fun h9 => absurd h9 (by decide)) (fun _ => ?_)
  refine sw_ic 0 dX7_fewest_31 ?_
  refine sw_ins (pc2 := 32) rfl rfl ?_
  refine sw_goto (tgt := 36) dX7_fewest_32 rfl ?_
  refine px_Vx mv_X7_92 A1_X7_holds rfl rfl (Nat.le_of_ble_eq_true rfl) (Nat.le_of_ble_eq_true rfl) ko_65 (Nat.le_of_ble_eq_true rfl) dX7_fewest_36 ?_
  refine sw_if_eq (tgt := 51) dX7_fewest_39 rfl (fun h9 => absurd h9 (by decide)) (fun _ => ?_)
  refine sw_aload_n (i := 0) dX7_fewest_42 rfl rfl ?_
  refine sw_iload_n (i := 1) dX7_fewest_43 rfl rfl ?_
  refine sw_iload_n (i := 2) dX7_fewest_44 rfl rfl ?_
  refine px_Vx2 mv_X7_64 a1 rfl rfl (Nat.le_of_ble_eq_true rfl) (Nat.le_of_ble_eq_true rfl) ko_65 (Nat.le_of_ble_eq_true rfl) dX7_fewest_45 ?_
  refine sw_goto (tgt := 52) dX7_fewest_48 rfl ?_
  refine sw_ins (pc2 := 52) rfl rfl ?_
  exact sw_ireturn rfl dX7_fewest_52
set_option maxRecDepth 100000 in
set_option maxHeartbeats 4000000 in
theorem M_richest {d : Nat → Nat → Int32} {r : Nat → Nat → Option Nat} {J : Nat → Nat → Int64} {V : Nat → Int32} {n : Nat} {H S : Nat → Nat → Int32} {t : Nat → Bool} {T : Nat → Int32} {tl : Nat} (h : RM d V n H S t T tl) (iv : IV V n H S t T tl)  : ∃ d1, OP kX7_richest yX7_richest 3 [.ref 65] d r J (some (.int (nI (rch V)))) d1 r J ∧ RM d1 V n H S t T tl ∧ d1 65 7 = nI 0 ∧ fc d d1 := by
  obtain ⟨okP, okM, okT9, okC, okW, okD⟩ := id iv.1
  have hV : mV d = V := h.2.1
  have hm8 := okM.2
  have h0 := RM_th (x := nI 0) h
  have v0 : mV (d2 d 65 7 (nI 0)) = V := h0.2.1
  refine ⟨d2 d 65 7 (nI 0), op_of pl_X7_richest (Nat.le_of_ble_eq_true rfl) ?_, h0, d2_eq _ _ _ _, fc_d2 (fc_refl d) (by decide)⟩
  refine sw_aload_n (i := 0) dX7_richest_0 rfl rfl ?_
  refine sw_ic 0 dX7_richest_1 ?_
  refine sx_putI fp_X7_35 (by decide) kf_65_7 dX7_richest_2 ?_
  refine sw_aload_n (i := 0) dX7_richest_5 rfl rfl ?_
  refine px_Vx mv_X7_186 (A_X7_richestTold v0) rfl rfl (Nat.le_of_ble_eq_true rfl) (Nat.le_of_ble_eq_true rfl) ko_65 (Nat.le_of_ble_eq_true rfl) dX7_richest_6 ?_
  exact sw_ireturn rfl dX7_richest_9
set_option maxRecDepth 100000 in
set_option maxHeartbeats 4000000 in
theorem M_richShare {d : Nat → Nat → Int32} {r : Nat → Nat → Option Nat} {J : Nat → Nat → Int64} {V : Nat → Int32} {n : Nat} {H S : Nat → Nat → Int32} {t : Nat → Bool} {T : Nat → Int32} {tl : Nat} (h : RM d V n H S t T tl) (iv : IV V n H S t T tl) : ∃ d1, OP kX7_richShare yX7_richShare 4 [.ref 65] d r J (some (.double (shr V))) d1 r J ∧ RM d1 V n H S t T tl ∧ d1 65 7 = nI 0 ∧ fc d d1 := by
  obtain ⟨okP, okM, okT9, okC, okW, okD⟩ := id iv.1
  have h0 := RM_th (x := nI 0) h
  have v0 : mV (d2 d 65 7 (nI 0)) = V := h0.2.1
  refine ⟨d2 d 65 7 (nI 0), op_of pl_X7_richShare (Nat.le_of_ble_eq_true rfl) ?_, h0, d2_eq _ _ _ _, fc_d2 (fc_refl d) (by decide)⟩
  refine sw_aload_n (i := 0) dX7_richShare_0 rfl rfl ?_
  refine sw_ic 0 dX7_richShare_1 ?_
  refine sx_putI fp_X7_35 (by decide) kf_65_7 dX7_richShare_2 ?_
  refine sw_aload_n (i := 0) dX7_richShare_5 rfl rfl ?_
  refine px_Vx mv_X7_195 (A_X7_shareTold v0 okC okW) rfl rfl (Nat.le_of_ble_eq_true rfl) (Nat.le_of_ble_eq_true rfl) ko_65 (Nat.le_of_ble_eq_true rfl) dX7_richShare_6 ?_
  exact sw_dreturn rfl dX7_richShare_9
set_option maxRecDepth 100000 in
set_option maxHeartbeats 4000000 in
theorem N_canKeepIn {d : Nat → Nat → Int32} {r : Nat → Nat → Option Nat} {J : Nat → Nat → Int64} {V : Nat → Int32} {n : Nat} {H S : Nat → Nat → Int32} {t : Nat → Bool} {T : Nat → Int32} {tl : Nat} (h : RM d V n H S t T tl) (iv : IV V n H S t T tl) {x : Int32} (hx : x < 0 ∨ ¬ x < nI (nv V 1)) : ∃ d1, OP kX7_canKeepIn yX7_canKeepIn 5 [.ref 65, .int x] d r J (some (.int (nI 0))) d1 r J ∧ RM d1 V n H S t T tl ∧ d1 65 7 = nI 1 ∧ fc d d1 := by
  obtain ⟨okP, okM, okT9, okC, okW, okD⟩ := id iv.1
  have hV : mV d = V := h.2.1
  have hm8 := okM.2
  subst hV
  refine ⟨d2 d 65 7 (nI 1), op_of pl_X7_canKeepIn (Nat.le_of_ble_eq_true rfl) ?_, RM_th h, d2_eq _ _ _ _, fc_d2 (fc_refl d) (by decide)⟩
  refine sw_aload_n (i := 0) dX7_canKeepIn_0 rfl rfl ?_
  refine sw_aload_n (i := 0) dX7_canKeepIn_1 rfl rfl ?_
  refine sw_iload_n (i := 1) dX7_canKeepIn_2 rfl rfl ?_
  refine px_Vx mv_X7_119 (A0_X7_isPromise okM hx) rfl rfl (Nat.le_of_ble_eq_true rfl) (Nat.le_of_ble_eq_true rfl) ko_65 (Nat.le_of_ble_eq_true rfl) dX7_canKeepIn_3 ?_
  refine sw_if_eq (tgt := 13) dX7_canKeepIn_6 rfl (fun _ => ?_) (fun h9 => absurd (by decide) h9)
  refine sw_ic 1 dX7_canKeepIn_13 ?_
  refine px_Vx mv_X7_92 (A0_X7_holds (k := 1) (by decide) (by decide)) rfl rfl (Nat.le_of_ble_eq_true rfl) (Nat.le_of_ble_eq_true rfl) ko_65 (Nat.le_of_ble_eq_true rfl) dX7_canKeepIn_14 ?_
  refine sw_ins (pc2 := 17) rfl rfl ?_
  refine sw_if_eq (tgt := 28) dX7_canKeepIn_17 rfl (fun _ => ?_) (fun h9 => absurd (by decide) h9)
  refine sw_ic 0 dX7_canKeepIn_28 ?_
  exact sw_ireturn rfl dX7_canKeepIn_29
set_option maxRecDepth 100000 in
set_option maxHeartbeats 4000000 in
theorem M_canKeepIn {d : Nat → Nat → Int32} {r : Nat → Nat → Option Nat} {J : Nat → Nat → Int64} {V : Nat → Int32} {n : Nat} {H S : Nat → Nat → Int32} {t : Nat → Bool} {T : Nat → Int32} {tl : Nat} (h : RM d V n H S t T tl) (iv : IV V n H S t T tl) {q : Nat} (hq : q < nv V 1) (hdue : prt V q 3 ≤ 9999) : ∃ d1, OP kX7_canKeepIn yX7_canKeepIn 5 [.ref 65, .int (nI q)] d r J (some (.int (ckp V q))) d1 r J ∧ RM d1 V n H S t T tl ∧ d1 65 7 = nI 0 ∧ fc d d1 := by
  obtain ⟨okP, okM, okT9, okC, okW, okD⟩ := id iv.1
  have hV : mV d = V := h.2.1
  have hm8 := okM.2
  have h0 := RM_th (x := nI 0) h
  have v0 : mV (d2 d 65 7 (nI 0)) = V := h0.2.1
  obtain ⟨d1, a1, a2⟩ := A_X7_keepIn (d := d2 d 65 7 (nI 0)) (r := r) (J := J) v0 iv.1 hq hdue
  obtain ⟨r1, r2, r3⟩ := RM_chg h0 ((mV_keep (a2 66 (by decide))).trans v0) (fun c q1 q2 q3 => a2 c q2)
  refine ⟨d1, op_of pl_X7_canKeepIn (Nat.le_of_ble_eq_true rfl) ?_, r1, r2.trans (d2_eq _ _ _ _), fc_tr (fc_d2 (fc_refl d) (by decide)) r3⟩
  refine sw_aload_n (i := 0) dX7_canKeepIn_0 rfl rfl ?_
  refine sw_aload_n (i := 0) dX7_canKeepIn_1 rfl rfl ?_
  refine sw_iload_n (i := 1) dX7_canKeepIn_2 rfl rfl ?_
  refine px_Vx mv_X7_119 (A1_X7_isPromise (by rw [hV]; exact okM) (by rw [hV]; exact hq)) rfl rfl (Nat.le_of_ble_eq_true rfl) (Nat.le_of_ble_eq_true rfl) ko_65 (Nat.le_of_ble_eq_true rfl) dX7_canKeepIn_3 ?_
  refine sw_if_eq (tgt := 13) dX7_canKeepIn_6 rfl (fun h9 => absurd h9 (by decide)) (fun _ => ?_)
  refine sw_ic 0 dX7_canKeepIn_9 ?_
  refine sw_goto (tgt := 14) dX7_canKeepIn_10 rfl ?_
  refine sw_ins (pc2 := 14) rfl rfl ?_
  refine px_Vx mv_X7_92 A1_X7_holds rfl rfl (Nat.le_of_ble_eq_true rfl) (Nat.le_of_ble_eq_true rfl) ko_65 (Nat.le_of_ble_eq_true rfl) dX7_canKeepIn_14 ?_
  refine sw_if_eq (tgt := 28) dX7_canKeepIn_17 rfl (fun h9 => absurd h9 (by decide)) (fun _ => ?_)
  refine sw_aload_n (i := 0) dX7_canKeepIn_20 rfl rfl ?_
  refine sw_iload_n (i := 1) dX7_canKeepIn_21 rfl rfl ?_
  refine px_Vx mv_X7_192 a1 rfl rfl (Nat.le_of_ble_eq_true rfl) (Nat.le_of_ble_eq_true rfl) ko_65 (Nat.le_of_ble_eq_true rfl) dX7_canKeepIn_22 ?_
  refine sw_goto (tgt := 29) dX7_canKeepIn_25 rfl ?_
  exact sw_ireturn rfl dX7_canKeepIn_29
set_option maxRecDepth 100000 in
set_option maxHeartbeats 4000000 in
theorem A_X7_mixIslander {d : Nat → Nat → Int32} {r : Nat → Nat → Option Nat} {J : Nat → Nat → Int64} {V : Nat → Int32} (ok : okV V) (hV0 : mV d = V) {a : Nat} {hh : Int64} (ha : a < 8) : ∃ d1, OP kX7_mixIslander yX7_mixIslander 4 [.ref 65, .int (nI a)] d r (d2 J 65 14 hh) none d1 r (d2 J 65 14 (wiF V a hh)) ∧ ∀ c, c ≠ 71 → d1 c = d c := by
  obtain ⟨okP, okM, okT9, okC, okW, okD⟩ := id ok
  have K4 : ∀ i, i ≤ 8 → ∀ d, mV d = V → ∃ d1, SW yX7_mixIslander cX7_mixIslander 3 none [] 4 none 98 [some (.ref 65), some (.int (nI a)), some (.int (nI i))] [] 75 (W0 d r (d2 J 65 14 (fo (owd V a) (wi3 V a hh) i))) 0 0 (.inl none) 75 (W0 d1 r (d2 J 65 14 (wiF V a hh))) ∧ ∀ c, c ≠ 71 → d1 c = d c := by
    refine am_loop (8) ?_ ?_
    · intro d hV
      refine ⟨d, ?_, fun c hc => rfl⟩
      refine sw_iload_n (i := 2) dX7_mixIslander_98 rfl rfl ?_
      refine sw_bi 8 dX7_mixIslander_99 (by decide +kernel) ?_
      refine sw_ic_ge (tgt := 121) dX7_mixIslander_101 rfl (fun _ => ?_) (fun h9 => absurd (nI_le (Nat.le_refl _) (by decide)) h9)
      exact sw_return rfl dX7_mixIslander_121
    · intro i hi ih d hV
      have x1 := A2_X7_sums (d := d) (r := r) (J := d2 J 65 14 (fo (owd V a) (wi3 V a hh) i)) hV okM ha hi
      obtain ⟨d1, y1, y2⟩ := ih d hV
      refine ⟨d1, ?_, y2⟩
      refine sw_iload_n (i := 2) dX7_mixIslander_98 rfl rfl ?_
      refine sw_bi 8 dX7_mixIslander_99 (by decide +kernel) ?_
      refine sw_ic_ge (tgt := 121) dX7_mixIslander_101 rfl (fun h9 => absurd h9 (nI_ge hi (by decide))) (fun _ => ?_)
      refine sw_aload_n (i := 0) dX7_mixIslander_104 rfl rfl ?_
      refine sw_aload_n (i := 0) dX7_mixIslander_105 rfl rfl ?_
      refine sw_iload_n (i := 1) dX7_mixIslander_106 rfl rfl ?_
      refine sw_iload_n (i := 2) dX7_mixIslander_107 rfl rfl ?_
      refine sw_ins (pc2 := 108) rfl rfl ?_
      refine px_Vx mv_X7_170 x1 rfl rfl (Nat.le_of_ble_eq_true rfl) (Nat.le_of_ble_eq_true rfl) ko_65 (Nat.le_of_ble_eq_true rfl) dX7_mixIslander_108 ?_
      refine sw_i2l dX7_mixIslander_111 ?_
      refine px_Vv mv_X7_213 A_X7_mix rfl rfl (Nat.le_of_ble_eq_true rfl) (Nat.le_of_ble_eq_true rfl) ko_65 (Nat.le_of_ble_eq_true rfl) dX7_mixIslander_112 ?_
      refine sw_iinc (i := 2) (v := nI (i + 1)) dX7_mixIslander_115 rfl (nI_1 _) (Nat.le_of_ble_eq_true rfl) rfl ?_
      refine sw_lo (lo2 := [some (.ref 65), some (.int _), some (.int _)]) rfl ?_
      refine sw_goto (tgt := 98) dX7_mixIslander_118 rfl ?_
      exact y1
  have K3 : ∀ d, mV d = V → ∃ d1, SW yX7_mixIslander cX7_mixIslander 3 none [] 4 none 48 [some (.ref 65), some (.int (nI a)), some (.int (nI 5))] [] 75 (W0 d r (d2 J 65 14 (wi1 V a hh))) 0 0 (.inl none) 75 (W0 d1 r (d2 J 65 14 (wiF V a hh))) ∧ ∀ c, c ≠ 71 → d1 c = d c := by
    intro d hV
    have x1 : ∀ J, OP kX7_whereIs yX7_whereIs 0 [.ref 65, .int (nI a), .int (nI 7)] d r J (some (.int (nI (alg V a 7)))) d r J := fun J => by
      have h9 := A_X7_whereIs (d := d) (r := r) (J := J) (a := a) (n := 7) (by rw [hV]; exact okP) ha (by decide)
      rw [hV] at h9
      exact h9
    have v0 := hV
    obtain ⟨e1, p0, f0⟩ := A_X7_payFrom (d := d) (r := r) (J := d2 J 65 14 (wi2 V a hh)) (a := a) (s := 17) (by rw [v0]; exact okC) (by rw [v0]; exact okW) ha (by decide)
    rw [v0] at p0
    have v1 : mV e1 = V := (mV_keep (f0.1 66 (by decide))).trans v0
    obtain ⟨e2, p1, f1⟩ := A_X7_payFrom (d := e1) (r := r) (J := d2 J 65 14 (31 * wi2 V a hh + (enc (wy V a 17)).toInt64)) (a := a) (s := 17) (by rw [v1]; exact okC) (by rw [v1]; exact okW) ha (by decide)
    rw [v1] at p1
    have v2 : mV e2 = V := (mV_keep (f1.1 66 (by decide))).trans v1
    obtain ⟨d1, y1, y2⟩ := K4 0 (Nat.zero_le _) e2 v2
    refine ⟨d1, ?_, fun c hc => ((y2 c hc).trans (f1.1 c hc)).trans (f0.1 c hc)⟩
    refine sw_aload_n (i := 0) dX7_mixIslander_48 rfl rfl ?_
    refine sw_aload_n (i := 0) dX7_mixIslander_49 rfl rfl ?_
    refine sw_iload_n (i := 1) dX7_mixIslander_50 rfl rfl ?_
    refine sw_bi 7 dX7_mixIslander_51 (by decide +kernel) ?_
    refine px_Vx mv_X7_67 (x1 _) rfl rfl (Nat.le_of_ble_eq_true rfl) (Nat.le_of_ble_eq_true rfl) ko_65 (Nat.le_of_ble_eq_true rfl) dX7_mixIslander_53 ?_
    refine sw_i2l dX7_mixIslander_56 ?_
    refine px_Vv mv_X7_213 A_X7_mix rfl rfl (Nat.le_of_ble_eq_true rfl) (Nat.le_of_ble_eq_true rfl) ko_65 (Nat.le_of_ble_eq_true rfl) dX7_mixIslander_57 ?_
    refine sw_ins (pc2 := 60) rfl rfl ?_
    refine sw_aload_n (i := 0) dX7_mixIslander_60 rfl rfl ?_
    refine sw_aload_n (i := 0) dX7_mixIslander_61 rfl rfl ?_
    refine sw_iload_n (i := 1) dX7_mixIslander_62 rfl rfl ?_
    refine sw_bi 7 dX7_mixIslander_63 (by decide +kernel) ?_
    refine px_Vx mv_X7_67 (x1 _) rfl rfl (Nat.le_of_ble_eq_true rfl) (Nat.le_of_ble_eq_true rfl) ko_65 (Nat.le_of_ble_eq_true rfl) dX7_mixIslander_65 ?_
    refine sw_i2l dX7_mixIslander_68 ?_
    refine px_Vv mv_X7_213 A_X7_mix rfl rfl (Nat.le_of_ble_eq_true rfl) (Nat.le_of_ble_eq_true rfl) ko_65 (Nat.le_of_ble_eq_true rfl) dX7_mixIslander_69 ?_
    refine sw_aload_n (i := 0) dX7_mixIslander_72 rfl rfl ?_
    refine sw_ins (pc2 := 73) rfl rfl ?_
    refine sw_aload_n (i := 0) dX7_mixIslander_73 rfl rfl ?_
    refine sw_iload_n (i := 1) dX7_mixIslander_74 rfl rfl ?_
    refine sw_bi 17 dX7_mixIslander_75 (by decide +kernel) ?_
    refine px_Vx2 mv_X7_64 p0 rfl rfl (Nat.le_of_ble_eq_true rfl) (Nat.le_of_ble_eq_true rfl) ko_65 (Nat.le_of_ble_eq_true rfl) dX7_mixIslander_77 ?_
    refine sw_i2l dX7_mixIslander_80 ?_
    refine px_Vv mv_X7_213 A_X7_mix rfl rfl (Nat.le_of_ble_eq_true rfl) (Nat.le_of_ble_eq_true rfl) ko_65 (Nat.le_of_ble_eq_true rfl) dX7_mixIslander_81 ?_
    refine sw_aload_n (i := 0) dX7_mixIslander_84 rfl rfl ?_
    refine sw_aload_n (i := 0) dX7_mixIslander_85 rfl rfl ?_
    refine sw_ins (pc2 := 86) rfl rfl ?_
    refine sw_iload_n (i := 1) dX7_mixIslander_86 rfl rfl ?_
    refine sw_bi 17 dX7_mixIslander_87 (by decide +kernel) ?_
    refine px_Vx2 mv_X7_64 p1 rfl rfl (Nat.le_of_ble_eq_true rfl) (Nat.le_of_ble_eq_true rfl) ko_65 (Nat.le_of_ble_eq_true rfl) dX7_mixIslander_89 ?_
    refine sw_i2l dX7_mixIslander_92 ?_
    refine px_Vv mv_X7_213 A_X7_mix rfl rfl (Nat.le_of_ble_eq_true rfl) (Nat.le_of_ble_eq_true rfl) ko_65 (Nat.le_of_ble_eq_true rfl) dX7_mixIslander_93 ?_
    refine sw_ic 0 dX7_mixIslander_96 ?_
    refine sw_istore_n (i := 2) dX7_mixIslander_97 rfl (Nat.le_of_ble_eq_true rfl) rfl ?_
    refine sw_lo (lo2 := [some (.ref 65), some (.int _), some (.int _)]) rfl ?_
    exact y1
  have K2 : ∀ i, i ≤ 5 → ∀ d, mV d = V → ∃ d1, SW yX7_mixIslander cX7_mixIslander 3 none [] 4 none 26 [some (.ref 65), some (.int (nI a)), some (.int (nI i))] [] 75 (W0 d r (d2 J 65 14 (fo (isl V a) (fo (fun c => V (19 + (a * 4 + c))) hh 4) i))) 0 0 (.inl none) 75 (W0 d1 r (d2 J 65 14 (wiF V a hh))) ∧ ∀ c, c ≠ 71 → d1 c = d c := by
    refine am_loop (5) ?_ ?_
    · intro d hV
      obtain ⟨d1, y1, y2⟩ := K3 d hV
      refine ⟨d1, ?_, y2⟩
      refine sw_iload_n (i := 2) dX7_mixIslander_26 rfl rfl ?_
      refine sw_ic 5 dX7_mixIslander_27 ?_
      refine sw_ic_ge (tgt := 48) dX7_mixIslander_28 rfl (fun _ => ?_) (fun h9 => absurd (nI_le (Nat.le_refl _) (by decide)) h9)
      exact y1
    · intro i hi ih d hV
      have x1 := A_X7_islanderTold (d := d) (r := r) (J := d2 J 65 14 (fo (isl V a) (fo (fun c => V (19 + (a * 4 + c))) hh 4) i)) hV okP okM ha hi
      obtain ⟨d1, y1, y2⟩ := ih d hV
      refine ⟨d1, ?_, y2⟩
      refine sw_iload_n (i := 2) dX7_mixIslander_26 rfl rfl ?_
      refine sw_ic 5 dX7_mixIslander_27 ?_
      refine sw_ic_ge (tgt := 48) dX7_mixIslander_28 rfl (fun h9 => absurd h9 (nI_ge hi (by decide))) (fun _ => ?_)
      refine sw_aload_n (i := 0) dX7_mixIslander_31 rfl rfl ?_
      refine sw_aload_n (i := 0) dX7_mixIslander_32 rfl rfl ?_
      refine sw_iload_n (i := 1) dX7_mixIslander_33 rfl rfl ?_
      refine sw_iload_n (i := 2) dX7_mixIslander_34 rfl rfl ?_
      refine sw_ins (pc2 := 35) rfl rfl ?_
      refine px_Vx mv_X7_173 x1 rfl rfl (Nat.le_of_ble_eq_true rfl) (Nat.le_of_ble_eq_true rfl) ko_65 (Nat.le_of_ble_eq_true rfl) dX7_mixIslander_35 ?_
      refine sw_i2l dX7_mixIslander_38 ?_
      refine px_Vv mv_X7_213 A_X7_mix rfl rfl (Nat.le_of_ble_eq_true rfl) (Nat.le_of_ble_eq_true rfl) ko_65 (Nat.le_of_ble_eq_true rfl) dX7_mixIslander_39 ?_
      refine sw_iinc (i := 2) (v := nI (i + 1)) dX7_mixIslander_42 rfl (nI_1 _) (Nat.le_of_ble_eq_true rfl) rfl ?_
      refine sw_lo (lo2 := [some (.ref 65), some (.int _), some (.int _)]) rfl ?_
      refine sw_goto (tgt := 26) dX7_mixIslander_45 rfl ?_
      exact y1
  have K1 : ∀ i, i ≤ 4 → ∀ d, mV d = V → ∃ d1, SW yX7_mixIslander cX7_mixIslander 3 none [] 4 none 2 [some (.ref 65), some (.int (nI a)), some (.int (nI i))] [] 75 (W0 d r (d2 J 65 14 (fo (fun c => V (19 + (a * 4 + c))) hh i))) 0 0 (.inl none) 75 (W0 d1 r (d2 J 65 14 (wiF V a hh))) ∧ ∀ c, c ≠ 71 → d1 c = d c := by
    refine am_loop (4) ?_ ?_
    · intro d hV
      obtain ⟨d1, y1, y2⟩ := K2 0 (Nat.zero_le _) d hV
      refine ⟨d1, ?_, y2⟩
      refine sw_iload_n (i := 2) dX7_mixIslander_2 rfl rfl ?_
      refine sw_ic 4 dX7_mixIslander_3 ?_
      refine sw_ic_ge (tgt := 24) dX7_mixIslander_4 rfl (fun _ => ?_) (fun h9 => absurd (nI_le (Nat.le_refl _) (by decide)) h9)
      refine sw_ic 0 dX7_mixIslander_24 ?_
      refine sw_istore_n (i := 2) dX7_mixIslander_25 rfl (Nat.le_of_ble_eq_true rfl) rfl ?_
      refine sw_lo (lo2 := [some (.ref 65), some (.int _), some (.int _)]) rfl ?_
      exact y1
    · intro i hi ih d hV
      have x1 := A_X7_capsOf (d := d) (r := r) (J := d2 J 65 14 (fo (fun c => V (19 + (a * 4 + c))) hh i)) ha hi
      rw [hV] at x1
      obtain ⟨d1, y1, y2⟩ := ih d hV
      refine ⟨d1, ?_, y2⟩
      refine sw_iload_n (i := 2) dX7_mixIslander_2 rfl rfl ?_
      refine sw_ic 4 dX7_mixIslander_3 ?_
      refine sw_ic_ge (tgt := 24) dX7_mixIslander_4 rfl (fun h9 => absurd h9 (nI_ge hi (by decide))) (fun _ => ?_)
      refine sw_aload_n (i := 0) dX7_mixIslander_7 rfl rfl ?_
      refine sw_aload_n (i := 0) dX7_mixIslander_8 rfl rfl ?_
      refine sw_iload_n (i := 1) dX7_mixIslander_9 rfl rfl ?_
      refine sw_iload_n (i := 2) dX7_mixIslander_10 rfl rfl ?_
      refine sw_ins (pc2 := 11) rfl rfl ?_
      refine px_Vx mv_X7_50 x1 rfl rfl (Nat.le_of_ble_eq_true rfl) (Nat.le_of_ble_eq_true rfl) ko_65 (Nat.le_of_ble_eq_true rfl) dX7_mixIslander_11 ?_
      refine sw_i2l dX7_mixIslander_14 ?_
      refine px_Vv mv_X7_213 A_X7_mix rfl rfl (Nat.le_of_ble_eq_true rfl) (Nat.le_of_ble_eq_true rfl) ko_65 (Nat.le_of_ble_eq_true rfl) dX7_mixIslander_15 ?_
      refine sw_iinc (i := 2) (v := nI (i + 1)) dX7_mixIslander_18 rfl (nI_1 _) (Nat.le_of_ble_eq_true rfl) rfl ?_
      refine sw_lo (lo2 := [some (.ref 65), some (.int _), some (.int _)]) rfl ?_
      refine sw_goto (tgt := 2) dX7_mixIslander_21 rfl ?_
      exact y1
  obtain ⟨d1, y1, y2⟩ := K1 0 (Nat.zero_le _) d hV0
  refine ⟨d1, op_of pl_X7_mixIslander (Nat.le_of_ble_eq_true rfl) ?_, y2⟩
  refine sw_ic 0 dX7_mixIslander_0 ?_
  refine sw_istore_n (i := 2) dX7_mixIslander_1 rfl (Nat.le_of_ble_eq_true rfl) rfl ?_
  refine sw_lo (lo2 := [some (.ref 65), some (.int _), some (.int _)]) rfl ?_
  exact y1
set_option maxRecDepth 100000 in
set_option maxHeartbeats 4000000 in
theorem M_digest {d : Nat → Nat → Int32} {r : Nat → Nat → Option Nat} {J : Nat → Nat → Int64} {V : Nat → Int32} {n : Nat} {H S : Nat → Nat → Int32} {t : Nat → Bool} {T : Nat → Int32} {tl : Nat} (h : RM d V n H S t T tl) (iv : IV V n H S t T tl) (hdue : ∀ q, q < nv V 1 → prt V q 3 ≤ 9999) : ∃ d1 J1, OP kX7_digest yX7_digest 5 [.ref 65] d r J (some (.long (dig V n t T tl))) d1 r J1 ∧ RM d1 V n H S t T tl ∧ d1 65 7 = nI 0 ∧ fc d d1 := by
  obtain ⟨okP, okM, okT9, okC, okW, okD⟩ := id iv.1
  have hm8 := okM.2
  have h60 := iv.2.2.2.1
  obtain ⟨E, tt, b1, b2, b3, b4⟩ := shr_bits okC okW
  have K9 : ∀ i, i ≤ tl → ∀ d, RM d V n H S t T tl → ∃ d1, SW yX7_digest cX7_digest 3 (some .long) [] 5 none 224 [some (.ref 65), some (.int (nI i)), none] [] 75 (W0 d r (d2 J 65 14 (fo (fun a => nI (sg T tl a)) (31 * dg6 V n t + (nI tl).toInt64) i))) 0 0 (.inl (some (.long (dig V n t T tl)))) 75 (W0 d1 r (d2 J 65 14 (dig V n t T tl))) ∧ ∀ c, c ≠ 71 → d1 c = d c := by
    refine am_loop (tl) ?_ ?_
    · intro d hV
      refine ⟨d, ?_, fun c hc => rfl⟩
      refine sw_iload_n (i := 1) dX7_digest_224 rfl rfl ?_
      refine sw_aload_n (i := 0) dX7_digest_225 rfl rfl ?_
      refine sx_getIE (nI tl) hV.2.2.2.2.2.2.1 f_X7_125 (by decide) kf_65_6 dX7_digest_226 ?_
      refine sw_ic_ge (tgt := 249) dX7_digest_229 rfl (fun _ => ?_) (fun h9 => absurd (nI_le (Nat.le_refl _) (by omega)) h9)
      refine sw_aload_n (i := 0) dX7_digest_249 rfl rfl ?_
      refine sx_getJ f_X7_209 (by decide) kj_65_14 dX7_digest_250 ?_
      rw [d2_eq]
      exact sw_lreturn rfl dX7_digest_253
    · intro i hi ih d hV
      have hT : ∀ i, i < tl → d 70 i = nI (sg T tl i) := fun i hi => by
        rw [hV.2.2.2.2.2.2.2 i hi, sg_at hi]
        exact (iv.2.2.2.2 i hi).1
      obtain ⟨d1, y1, y2⟩ := ih d hV
      refine ⟨d1, ?_, y2⟩
      refine sw_iload_n (i := 1) dX7_digest_224 rfl rfl ?_
      refine sw_aload_n (i := 0) dX7_digest_225 rfl rfl ?_
      refine sx_getIE (nI tl) hV.2.2.2.2.2.2.1 f_X7_125 (by decide) kf_65_6 dX7_digest_226 ?_
      refine sw_ic_ge (tgt := 249) dX7_digest_229 rfl (fun h9 => absurd h9 (nI_ge hi (by omega))) (fun _ => ?_)
      refine sw_aload_n (i := 0) dX7_digest_232 rfl rfl ?_
      refine sw_aload_n (i := 0) dX7_digest_233 rfl rfl ?_
      refine sx_getR (q := 70) f_X7_23 (by decide) kr_65_5 dX7_digest_234 ?_
      refine sw_ins (pc2 := 237) rfl rfl ?_
      refine sw_iload_n (i := 1) dX7_digest_237 rfl rfl ?_
      refine sx_ialdE (i) (nI (sg T tl i)) (hT i hi) rfl rfl (by omega) dX7_digest_238 ?_
      refine sw_i2l dX7_digest_239 ?_
      refine px_Vv mv_X7_213 A_X7_mix rfl rfl (Nat.le_of_ble_eq_true rfl) (Nat.le_of_ble_eq_true rfl) ko_65 (Nat.le_of_ble_eq_true rfl) dX7_digest_240 ?_
      refine sw_iinc (i := 1) (v := nI (i + 1)) dX7_digest_243 rfl (nI_1 _) (Nat.le_of_ble_eq_true rfl) rfl ?_
      refine sw_lo (lo2 := [some (.ref 65), some (.int _), none]) rfl ?_
      refine sw_goto (tgt := 224) dX7_digest_246 rfl ?_
      exact y1
  have K8 : ∀ d, RM d V n H S t T tl → ∃ d1, SW yX7_digest cX7_digest 3 (some .long) [] 5 none 213 [some (.ref 65), some (.int (nI 2)), none] [] 75 (W0 d r (d2 J 65 14 (dg6 V n t))) 0 0 (.inl (some (.long (dig V n t T tl)))) 75 (W0 d1 r (d2 J 65 14 (dig V n t T tl))) ∧ ∀ c, c ≠ 71 → d1 c = d c := by
    intro d hV
    obtain ⟨d1, y1, y2⟩ := K9 0 (Nat.zero_le _) d hV
    refine ⟨d1, ?_, y2⟩
    refine sw_aload_n (i := 0) dX7_digest_213 rfl rfl ?_
    refine sw_aload_n (i := 0) dX7_digest_214 rfl rfl ?_
    refine sx_getIE (nI tl) hV.2.2.2.2.2.2.1 f_X7_125 (by decide) kf_65_6 dX7_digest_215 ?_
    refine sw_i2l dX7_digest_218 ?_
    refine px_Vv mv_X7_213 A_X7_mix rfl rfl (Nat.le_of_ble_eq_true rfl) (Nat.le_of_ble_eq_true rfl) ko_65 (Nat.le_of_ble_eq_true rfl) dX7_digest_219 ?_
    refine sw_ic 0 dX7_digest_222 ?_
    refine sw_istore_n (i := 1) dX7_digest_223 rfl (Nat.le_of_ble_eq_true rfl) rfl ?_
    refine sw_lo (lo2 := [some (.ref 65), some (.int _), none]) rfl ?_
    exact y1
  have K7 : ∀ i, i ≤ 2 → ∀ d, RM d V n H S t T tl → ∃ d1, SW yX7_digest cX7_digest 3 (some .long) [] 5 none 184 [some (.ref 65), some (.int (nI i)), none] [] 75 (W0 d r (d2 J 65 14 (fo (fun i => bI (t i)) (dg5 V n) i))) 0 0 (.inl (some (.long (dig V n t T tl)))) 75 (W0 d1 r (d2 J 65 14 (dig V n t T tl))) ∧ ∀ c, c ≠ 71 → d1 c = d c := by
    refine am_loop (2) ?_ ?_
    · intro d hV
      obtain ⟨d1, y1, y2⟩ := K8 d hV
      refine ⟨d1, ?_, y2⟩
      refine sw_iload_n (i := 1) dX7_digest_184 rfl rfl ?_
      refine sw_ic 2 dX7_digest_185 ?_
      refine sw_ic_ge (tgt := 213) dX7_digest_186 rfl (fun _ => ?_) (fun h9 => absurd (nI_le (Nat.le_refl _) (by decide)) h9)
      exact y1
    · intro i hi ih d hV
      have hz : d 69 i = bI (t i) := by
        match i, hi with
        | 0, _ => exact hV.2.2.2.2.2.1.1
        | 1, _ => exact hV.2.2.2.2.2.1.2
      obtain ⟨d1, y1, y2⟩ := ih d hV
      refine ⟨d1, ?_, y2⟩
      have hfo : fo (fun i => bI (t i)) (dg5 V n) (i + 1) = 31 * fo (fun i => bI (t i)) (dg5 V n) i + (bI (t i)).toInt64 := rfl
      cases ht : t i with
      | false =>
        rw [ht] at hz
        rw [hfo, ht, show (bI false).toInt64 = (0 : Int64) by decide] at y1
        refine sw_iload_n (i := 1) dX7_digest_184 rfl rfl ?_
        refine sw_ic 2 dX7_digest_185 ?_
        refine sw_ic_ge (tgt := 213) dX7_digest_186 rfl (fun h9 => absurd h9 (nI_ge hi (by decide))) (fun _ => ?_)
        refine sw_aload_n (i := 0) dX7_digest_189 rfl rfl ?_
        refine sw_aload_n (i := 0) dX7_digest_190 rfl rfl ?_
        refine sx_getR (q := 69) f_X7_19 (by decide) kr_65_4 dX7_digest_191 ?_
        refine sw_iload_n (i := 1) dX7_digest_194 rfl rfl ?_
        refine sw_ins (pc2 := 195) rfl rfl ?_
        refine sx_zaldE (i) (nI 0) hz rfl rfl (by omega) dX7_digest_195 ?_
        refine sw_if_eq (tgt := 203) dX7_digest_196 rfl (fun _ => ?_) (fun h9 => absurd (by decide) h9)
        refine sw_lc (v := 0) dX7_digest_203 (by decide) ?_
        refine px_Vv mv_X7_213 A_X7_mix rfl rfl (Nat.le_of_ble_eq_true rfl) (Nat.le_of_ble_eq_true rfl) ko_65 (Nat.le_of_ble_eq_true rfl) dX7_digest_204 ?_
        refine sw_iinc (i := 1) (v := nI (i + 1)) dX7_digest_207 rfl (nI_1 _) (Nat.le_of_ble_eq_true rfl) rfl ?_
        refine sw_lo (lo2 := [some (.ref 65), some (.int _), none]) rfl ?_
        refine sw_goto (tgt := 184) dX7_digest_210 rfl ?_
        exact y1
      | true =>
        rw [ht] at hz
        rw [hfo, ht, show (bI true).toInt64 = (1 : Int64) by decide] at y1
        refine sw_iload_n (i := 1) dX7_digest_184 rfl rfl ?_
        refine sw_ic 2 dX7_digest_185 ?_
        refine sw_ic_ge (tgt := 213) dX7_digest_186 rfl (fun h9 => absurd h9 (nI_ge hi (by decide))) (fun _ => ?_)
        refine sw_aload_n (i := 0) dX7_digest_189 rfl rfl ?_
        refine sw_aload_n (i := 0) dX7_digest_190 rfl rfl ?_
        refine sx_getR (q := 69) f_X7_19 (by decide) kr_65_4 dX7_digest_191 ?_
        refine sw_iload_n (i := 1) dX7_digest_194 rfl rfl ?_
        refine sw_ins (pc2 := 195) rfl rfl ?_
        refine sx_zaldE (i) (nI 1) hz rfl rfl (by omega) dX7_digest_195 ?_
        refine sw_if_eq (tgt := 203) dX7_digest_196 rfl (fun h9 => absurd h9 (by decide)) (fun _ => ?_)
        refine sw_lc (v := 1) dX7_digest_199 (by decide) ?_
        refine sw_goto (tgt := 204) dX7_digest_200 rfl ?_
        refine px_Vv mv_X7_213 A_X7_mix rfl rfl (Nat.le_of_ble_eq_true rfl) (Nat.le_of_ble_eq_true rfl) ko_65 (Nat.le_of_ble_eq_true rfl) dX7_digest_204 ?_
        refine sw_iinc (i := 1) (v := nI (i + 1)) dX7_digest_207 rfl (nI_1 _) (Nat.le_of_ble_eq_true rfl) rfl ?_
        refine sw_lo (lo2 := [some (.ref 65), some (.int _), none]) rfl ?_
        refine sw_goto (tgt := 184) dX7_digest_210 rfl ?_
        exact y1
  have K6 : ∀ d, RM d V n H S t T tl → ∃ d1, SW yX7_digest cX7_digest 3 (some .long) [] 5 none 144 [some (.ref 65), some (.int (nI (nv V 1))), none] [] 75 (W0 d r (d2 J 65 14 (dg3 V n))) 0 0 (.inl (some (.long (dig V n t T tl)))) 75 (W0 d1 r (d2 J 65 14 (dig V n t T tl))) ∧ ∀ c, c ≠ 71 → d1 c = d c := by
    intro d hV
    have v0 := hV.2.1
    have x1 : ∀ J, OP kX7_home yX7_home 2 [.ref 65] d r J (some (.int (nI (hm V)))) d r J := fun J => by
      have h9 := A_X7_home (d := d) (r := r) (J := J) (by rw [v0]; exact okP)
      rw [v0] at h9
      exact h9
    have z1 : ∀ J, OP kX7_bitsOf yX7_bitsOf 0 [.double (shr V)] d r J (some (.long (bts (shr V)))) d r J := fun J => A_X7_bitsOf b1 b2 b3 b4
    obtain ⟨d1, y1, y2⟩ := K7 0 (Nat.zero_le _) d hV
    refine ⟨d1, ?_, y2⟩
    refine sw_aload_n (i := 0) dX7_digest_144 rfl rfl ?_
    refine sw_aload_n (i := 0) dX7_digest_145 rfl rfl ?_
    refine px_Vx mv_X7_183 (x1 _) rfl rfl (Nat.le_of_ble_eq_true rfl) (Nat.le_of_ble_eq_true rfl) ko_65 (Nat.le_of_ble_eq_true rfl) dX7_digest_146 ?_
    refine sw_i2l dX7_digest_149 ?_
    refine px_Vv mv_X7_213 A_X7_mix rfl rfl (Nat.le_of_ble_eq_true rfl) (Nat.le_of_ble_eq_true rfl) ko_65 (Nat.le_of_ble_eq_true rfl) dX7_digest_150 ?_
    refine sw_aload_n (i := 0) dX7_digest_153 rfl rfl ?_
    refine sw_aload_n (i := 0) dX7_digest_154 rfl rfl ?_
    refine sw_ins (pc2 := 155) rfl rfl ?_
    refine px_Vx mv_X7_183 (x1 _) rfl rfl (Nat.le_of_ble_eq_true rfl) (Nat.le_of_ble_eq_true rfl) ko_65 (Nat.le_of_ble_eq_true rfl) dX7_digest_155 ?_
    refine sw_i2l dX7_digest_158 ?_
    refine px_Vv mv_X7_213 A_X7_mix rfl rfl (Nat.le_of_ble_eq_true rfl) (Nat.le_of_ble_eq_true rfl) ko_65 (Nat.le_of_ble_eq_true rfl) dX7_digest_159 ?_
    refine sw_aload_n (i := 0) dX7_digest_162 rfl rfl ?_
    refine sw_aload_n (i := 0) dX7_digest_163 rfl rfl ?_
    refine px_Vx mv_X7_186 (A_X7_richestTold v0) rfl rfl (Nat.le_of_ble_eq_true rfl) (Nat.le_of_ble_eq_true rfl) ko_65 (Nat.le_of_ble_eq_true rfl) dX7_digest_164 ?_
    refine sw_i2l dX7_digest_167 ?_
    refine px_Vv mv_X7_213 A_X7_mix rfl rfl (Nat.le_of_ble_eq_true rfl) (Nat.le_of_ble_eq_true rfl) ko_65 (Nat.le_of_ble_eq_true rfl) dX7_digest_168 ?_
    refine sw_ins (pc2 := 171) rfl rfl ?_
    refine sw_aload_n (i := 0) dX7_digest_171 rfl rfl ?_
    refine sw_aload_n (i := 0) dX7_digest_172 rfl rfl ?_
    refine px_Vx mv_X7_195 (A_X7_shareTold v0 okC okW) rfl rfl (Nat.le_of_ble_eq_true rfl) (Nat.le_of_ble_eq_true rfl) ko_65 (Nat.le_of_ble_eq_true rfl) dX7_digest_173 ?_
    refine px_Sx ms_X7_222 (z1 _) rfl rfl (Nat.le_of_ble_eq_true rfl) (Nat.le_of_ble_eq_true rfl) (Nat.le_of_ble_eq_true rfl) dX7_digest_176 ?_
    refine px_Vv mv_X7_213 A_X7_mix rfl rfl (Nat.le_of_ble_eq_true rfl) (Nat.le_of_ble_eq_true rfl) ko_65 (Nat.le_of_ble_eq_true rfl) dX7_digest_179 ?_
    refine sw_ic 0 dX7_digest_182 ?_
    refine sw_istore_n (i := 1) dX7_digest_183 rfl (Nat.le_of_ble_eq_true rfl) rfl ?_
    refine sw_lo (lo2 := [some (.ref 65), some (.int _), none]) rfl ?_
    exact y1
  have K5 : ∀ i, i ≤ nv V 1 → ∀ d, RM d V n H S t T tl → ∃ d1, SW yX7_digest cX7_digest 3 (some .long) [] 5 none 84 [some (.ref 65), some (.int (nI i)), none] [] 75 (W0 d r (d2 J 65 14 (foF (wpF V) (dg2 V n) i))) 0 0 (.inl (some (.long (dig V n t T tl)))) 75 (W0 d1 r (d2 J 65 14 (dig V n t T tl))) ∧ ∀ c, c ≠ 71 → d1 c = d c := by
    refine am_loop (nv V 1) ?_ ?_
    · intro d hV
      obtain ⟨d1, y1, y2⟩ := K6 d hV
      refine ⟨d1, ?_, y2⟩
      refine sw_iload_n (i := 1) dX7_digest_84 rfl rfl ?_
      refine sw_aload_n (i := 0) dX7_digest_85 rfl rfl ?_
      refine sx_getR (q := 66) f_X7_7 (by decide) kr_65_0 dX7_digest_86 ?_
      refine sw_ic 1 dX7_digest_89 ?_
      refine sx_ialdE (1) (nI (nv V 1)) ((mV_in d (by decide) rfl).trans ((congrFun hV.2.1 1).trans okM.1)) rfl rfl (by omega) dX7_digest_90 ?_
      refine sw_ic_ge (tgt := 144) dX7_digest_91 rfl (fun _ => ?_) (fun h9 => absurd (nI_le (Nat.le_refl _) (by omega)) h9)
      exact y1
    · intro i hi ih d hV
      have inn : ∀ w, w ≤ 4 → ∀ d, RM d V n H S t T tl → ∃ d1, SW yX7_digest cX7_digest 3 (some .long) [] 5 none 96 [some (.ref 65), some (.int (nI i)), some (.int (nI w))] [] 75 (W0 d r (d2 J 65 14 (fo (pro V i) (foF (wpF V) (dg2 V n) i) w))) 0 0 (.inl (some (.long (dig V n t T tl)))) 75 (W0 d1 r (d2 J 65 14 (dig V n t T tl))) ∧ ∀ c, c ≠ 71 → d1 c = d c := by
        refine am_loop 4 ?_ ?_
        · intro d hV
          have v0 := hV.2.1
          obtain ⟨e1, p1, p2⟩ := A_X7_payOf (d := d) (r := r) (J := d2 J 65 14 (fo (pro V i) (foF (wpF V) (dg2 V n) i) 4)) (q := i) (by rw [v0]; exact iv.1) (by rw [v0]; exact hi)
          rw [v0] at p1
          have h1 := (RM_chg hV ((mV_keep (p2.1 66 (by decide))).trans hV.2.1) (fun c q1 q2 q3 => p2.1 c q2)).1
          have v1 := h1.2.1
          obtain ⟨e2, q1, q2⟩ := A_X7_keepIn (d := e1) (r := r) (J := d2 J 65 14 (31 * fo (pro V i) (foF (wpF V) (dg2 V n) i) 4 + (enc (wy V (prt V i 0) (prt V i 2))).toInt64)) v1 iv.1 hi (hdue i hi)
          have h2 := (RM_chg h1 ((mV_keep (q2 66 (by decide))).trans v1) (fun c k1 k2 k3 => q2 c k2)).1
          have hw : foF (wpF V) (dg2 V n) (i + 1) = 31 * (31 * fo (pro V i) (foF (wpF V) (dg2 V n) i) 4 + (enc (wy V (prt V i 0) (prt V i 2))).toInt64) + (ckp V i).toInt64 := by
            show 31 * (31 * fo (pro V i) (foF (wpF V) (dg2 V n) i) 4 + (pro V i 4).toInt64) + (ckp V i).toInt64 = _
            rw [show pro V i 4 = enc (wy V (prt V i 0) (prt V i 2)) from if_neg (by decide)]
          obtain ⟨d1, y1, y2⟩ := ih e2 h2
          rw [hw] at y1
          refine ⟨d1, ?_, fun c hc => ((y2 c hc).trans (q2 c hc)).trans (p2.1 c hc)⟩
          refine sw_iload_n (i := 2) dX7_digest_96 rfl rfl ?_
          refine sw_ic 4 dX7_digest_97 ?_
          refine sw_ic_ge (tgt := 118) dX7_digest_98 rfl (fun _ => ?_) (fun h9 => absurd (nI_le (Nat.le_refl _) (by decide)) h9)
          refine sw_aload_n (i := 0) dX7_digest_118 rfl rfl ?_
          refine sw_aload_n (i := 0) dX7_digest_119 rfl rfl ?_
          refine sw_iload_n (i := 1) dX7_digest_120 rfl rfl ?_
          refine px_Vx mv_X7_81 p1 rfl rfl (Nat.le_of_ble_eq_true rfl) (Nat.le_of_ble_eq_true rfl) ko_65 (Nat.le_of_ble_eq_true rfl) dX7_digest_121 ?_
          refine sw_ins (pc2 := 124) rfl rfl ?_
          refine sw_i2l dX7_digest_124 ?_
          refine px_Vv mv_X7_213 A_X7_mix rfl rfl (Nat.le_of_ble_eq_true rfl) (Nat.le_of_ble_eq_true rfl) ko_65 (Nat.le_of_ble_eq_true rfl) dX7_digest_125 ?_
          refine sw_aload_n (i := 0) dX7_digest_128 rfl rfl ?_
          refine sw_aload_n (i := 0) dX7_digest_129 rfl rfl ?_
          refine sw_iload_n (i := 1) dX7_digest_130 rfl rfl ?_
          refine px_Vx mv_X7_192 q1 rfl rfl (Nat.le_of_ble_eq_true rfl) (Nat.le_of_ble_eq_true rfl) ko_65 (Nat.le_of_ble_eq_true rfl) dX7_digest_131 ?_
          refine sw_i2l dX7_digest_134 ?_
          refine px_Vv mv_X7_213 A_X7_mix rfl rfl (Nat.le_of_ble_eq_true rfl) (Nat.le_of_ble_eq_true rfl) ko_65 (Nat.le_of_ble_eq_true rfl) dX7_digest_135 ?_
          refine sw_ins (pc2 := 138) rfl rfl ?_
          refine sw_iinc (i := 1) (v := nI (i + 1)) dX7_digest_138 rfl (nI_1 _) (Nat.le_of_ble_eq_true rfl) rfl ?_
          refine sw_lo (lo2 := [some (.ref 65), some (.int _), some (.int _)]) rfl ?_
          refine sw_goto (tgt := 84) dX7_digest_141 rfl ?_
          refine sw_sub ?_ y1
          exact ⟨rfl, rfl, trivial⟩
        · intro w hw iw d hV
          have v0 := hV.2.1
          have g0 := A_X7_of (d := d) (r := r) (J := d2 J 65 14 (fo (pro V i) (foF (wpF V) (dg2 V n) i) w)) (q := i) (c := w) (by omega) hw
          rw [v0] at g0
          obtain ⟨d1, y1, y2⟩ := iw d hV
          have hw2 : fo (pro V i) (foF (wpF V) (dg2 V n) i) (w + 1) = 31 * fo (pro V i) (foF (wpF V) (dg2 V n) i) w + (V (51 + (i * 4 + w))).toInt64 := by
            show 31 * fo (pro V i) (foF (wpF V) (dg2 V n) i) w + (pro V i w).toInt64 = _
            rw [show pro V i w = V (51 + (i * 4 + w)) from if_pos hw]
          rw [hw2] at y1
          refine ⟨d1, ?_, y2⟩
          refine sw_iload_n (i := 2) dX7_digest_96 rfl rfl ?_
          refine sw_ic 4 dX7_digest_97 ?_
          refine sw_ic_ge (tgt := 118) dX7_digest_98 rfl (fun h9 => absurd h9 (nI_ge hw (by decide))) (fun _ => ?_)
          refine sw_aload_n (i := 0) dX7_digest_101 rfl rfl ?_
          refine sw_aload_n (i := 0) dX7_digest_102 rfl rfl ?_
          refine sw_iload_n (i := 1) dX7_digest_103 rfl rfl ?_
          refine sw_iload_n (i := 2) dX7_digest_104 rfl rfl ?_
          refine sw_ins (pc2 := 105) rfl rfl ?_
          refine px_Vx mv_X7_61 g0 rfl rfl (Nat.le_of_ble_eq_true rfl) (Nat.le_of_ble_eq_true rfl) ko_65 (Nat.le_of_ble_eq_true rfl) dX7_digest_105 ?_
          refine sw_i2l dX7_digest_108 ?_
          refine px_Vv mv_X7_213 A_X7_mix rfl rfl (Nat.le_of_ble_eq_true rfl) (Nat.le_of_ble_eq_true rfl) ko_65 (Nat.le_of_ble_eq_true rfl) dX7_digest_109 ?_
          refine sw_iinc (i := 2) (v := nI (w + 1)) dX7_digest_112 rfl (nI_1 _) (Nat.le_of_ble_eq_true rfl) rfl ?_
          refine sw_lo (lo2 := [some (.ref 65), some (.int _), some (.int _)]) rfl ?_
          refine sw_goto (tgt := 96) dX7_digest_115 rfl ?_
          exact y1
      obtain ⟨d1, y1, y2⟩ := inn 0 (Nat.zero_le _) d hV
      refine ⟨d1, ?_, y2⟩
      refine sw_iload_n (i := 1) dX7_digest_84 rfl rfl ?_
      refine sw_aload_n (i := 0) dX7_digest_85 rfl rfl ?_
      refine sx_getR (q := 66) f_X7_7 (by decide) kr_65_0 dX7_digest_86 ?_
      refine sw_ic 1 dX7_digest_89 ?_
      refine sx_ialdE (1) (nI (nv V 1)) ((mV_in d (by decide) rfl).trans ((congrFun hV.2.1 1).trans okM.1)) rfl rfl (by omega) dX7_digest_90 ?_
      refine sw_ic_ge (tgt := 144) dX7_digest_91 rfl (fun h9 => absurd h9 (nI_ge hi (by omega))) (fun _ => ?_)
      refine sw_ic 0 dX7_digest_94 ?_
      refine sw_ins (pc2 := 95) rfl rfl ?_
      refine sw_istore_n (i := 2) dX7_digest_95 rfl (Nat.le_of_ble_eq_true rfl) rfl ?_
      refine sw_lo (lo2 := [some (.ref 65), some (.int _), some (.int _)]) rfl ?_
      exact y1
  have K3 : ∀ i, i ≤ 8 → ∀ d, RM d V n H S t T tl → ∃ d1, SW yX7_digest cX7_digest 3 (some .long) [] 5 none 65 [some (.ref 65), some (.int (nI i)), none] [] 75 (W0 d r (d2 J 65 14 (foF (wiF V) (dg1 V n) i))) 0 0 (.inl (some (.long (dig V n t T tl)))) 75 (W0 d1 r (d2 J 65 14 (dig V n t T tl))) ∧ ∀ c, c ≠ 71 → d1 c = d c := by
    refine am_loop (8) ?_ ?_
    · intro d hV
      obtain ⟨d1, y1, y2⟩ := K5 0 (Nat.zero_le _) d hV
      refine ⟨d1, ?_, y2⟩
      refine sw_iload_n (i := 1) dX7_digest_65 rfl rfl ?_
      refine sw_bi 8 dX7_digest_66 (by decide +kernel) ?_
      refine sw_ic_ge (tgt := 82) dX7_digest_68 rfl (fun _ => ?_) (fun h9 => absurd (nI_le (Nat.le_refl _) (by decide)) h9)
      refine sw_ic 0 dX7_digest_82 ?_
      refine sw_istore_n (i := 1) dX7_digest_83 rfl (Nat.le_of_ble_eq_true rfl) rfl ?_
      refine sw_lo (lo2 := [some (.ref 65), some (.int _), none]) rfl ?_
      exact y1
    · intro i hi ih d hV
      obtain ⟨e1, p1, p2⟩ := A_X7_mixIslander (d := d) (r := r) (J := J) (a := i) (hh := foF (wiF V) (dg1 V n) i) iv.1 hV.2.1 hi
      have h1 := (RM_chg hV ((mV_keep (p2 66 (by decide))).trans hV.2.1) (fun c q1 q2 q3 => p2 c q2)).1
      obtain ⟨d1, y1, y2⟩ := ih e1 h1
      refine ⟨d1, ?_, fun c hc => (y2 c hc).trans (p2 c hc)⟩
      refine sw_iload_n (i := 1) dX7_digest_65 rfl rfl ?_
      refine sw_bi 8 dX7_digest_66 (by decide +kernel) ?_
      refine sw_ic_ge (tgt := 82) dX7_digest_68 rfl (fun h9 => absurd h9 (nI_ge hi (by decide))) (fun _ => ?_)
      refine sw_aload_n (i := 0) dX7_digest_71 rfl rfl ?_
      refine sw_iload_n (i := 1) dX7_digest_72 rfl rfl ?_
      refine px_Vv mv_X7_219 p1 rfl rfl (Nat.le_of_ble_eq_true rfl) (Nat.le_of_ble_eq_true rfl) ko_65 (Nat.le_of_ble_eq_true rfl) dX7_digest_73 ?_
      refine sw_iinc (i := 1) (v := nI (i + 1)) dX7_digest_76 rfl (nI_1 _) (Nat.le_of_ble_eq_true rfl) rfl ?_
      refine sw_lo (lo2 := [some (.ref 65), some (.int _), none]) rfl ?_
      refine sw_ins (pc2 := 79) rfl rfl ?_
      refine sw_goto (tgt := 65) dX7_digest_79 rfl ?_
      exact y1
  have K2 : ∀ i, i ≤ 4 → ∀ d, RM d V n H S t T tl → ∃ d1, SW yX7_digest cX7_digest 3 (some .long) [] 5 none 38 [some (.ref 65), some (.int (nI i)), none] [] 75 (W0 d r (d2 J 65 14 (fo (fun c => V (7 + c)) (fo (cnt V n) 3643 10) i))) 0 0 (.inl (some (.long (dig V n t T tl)))) 75 (W0 d1 r (d2 J 65 14 (dig V n t T tl))) ∧ ∀ c, c ≠ 71 → d1 c = d c := by
    refine am_loop (4) ?_ ?_
    · intro d hV
      obtain ⟨d1, y1, y2⟩ := K3 0 (Nat.zero_le _) d hV
      refine ⟨d1, ?_, y2⟩
      refine sw_iload_n (i := 1) dX7_digest_38 rfl rfl ?_
      refine sw_ic 4 dX7_digest_39 ?_
      refine sw_ic_ge (tgt := 63) dX7_digest_40 rfl (fun _ => ?_) (fun h9 => absurd (nI_le (Nat.le_refl _) (by decide)) h9)
      refine sw_ic 0 dX7_digest_63 ?_
      refine sw_istore_n (i := 1) dX7_digest_64 rfl (Nat.le_of_ble_eq_true rfl) rfl ?_
      refine sw_lo (lo2 := [some (.ref 65), some (.int _), none]) rfl ?_
      exact y1
    · intro i hi ih d hV
      obtain ⟨d1, y1, y2⟩ := ih d hV
      refine ⟨d1, ?_, y2⟩
      refine sw_iload_n (i := 1) dX7_digest_38 rfl rfl ?_
      refine sw_ic 4 dX7_digest_39 ?_
      refine sw_ic_ge (tgt := 63) dX7_digest_40 rfl (fun h9 => absurd h9 (nI_ge hi (by decide))) (fun _ => ?_)
      refine sw_aload_n (i := 0) dX7_digest_43 rfl rfl ?_
      refine sw_aload_n (i := 0) dX7_digest_44 rfl rfl ?_
      refine sx_getR (q := 66) f_X7_7 (by decide) kr_65_0 dX7_digest_45 ?_
      refine sw_bi 7 dX7_digest_48 (by decide +kernel) ?_
      refine sw_ins (pc2 := 50) rfl rfl ?_
      refine sw_iload_n (i := 1) dX7_digest_50 rfl rfl ?_
      refine sw_iadd dX7_digest_51 ?_
      refine sx_ialdE (7 + i) (V (7 + i)) ((mV_in d (by omega) rfl).trans (congrFun hV.2.1 _)) rfl (by simp only [nI_add, pk_mul]) (by omega) dX7_digest_52 ?_
      refine sw_i2l dX7_digest_53 ?_
      refine px_Vv mv_X7_213 A_X7_mix rfl rfl (Nat.le_of_ble_eq_true rfl) (Nat.le_of_ble_eq_true rfl) ko_65 (Nat.le_of_ble_eq_true rfl) dX7_digest_54 ?_
      refine sw_iinc (i := 1) (v := nI (i + 1)) dX7_digest_57 rfl (nI_1 _) (Nat.le_of_ble_eq_true rfl) rfl ?_
      refine sw_lo (lo2 := [some (.ref 65), some (.int _), none]) rfl ?_
      refine sw_goto (tgt := 38) dX7_digest_60 rfl ?_
      exact y1
  have K1 : ∀ i, i ≤ 10 → ∀ d, RM d V n H S t T tl → ∃ d1, SW yX7_digest cX7_digest 3 (some .long) [] 5 none 14 [some (.ref 65), some (.int (nI i)), none] [] 75 (W0 d r (d2 J 65 14 (fo (cnt V n) 3643 i))) 0 0 (.inl (some (.long (dig V n t T tl)))) 75 (W0 d1 r (d2 J 65 14 (dig V n t T tl))) ∧ ∀ c, c ≠ 71 → d1 c = d c := by
    refine am_loop (10) ?_ ?_
    · intro d hV
      obtain ⟨d1, y1, y2⟩ := K2 0 (Nat.zero_le _) d hV
      refine ⟨d1, ?_, y2⟩
      refine sw_iload_n (i := 1) dX7_digest_14 rfl rfl ?_
      refine sw_bi 10 dX7_digest_15 (by decide +kernel) ?_
      refine sw_ic_ge (tgt := 36) dX7_digest_17 rfl (fun _ => ?_) (fun h9 => absurd (nI_le (Nat.le_refl _) (by decide)) h9)
      refine sw_ic 0 dX7_digest_36 ?_
      refine sw_istore_n (i := 1) dX7_digest_37 rfl (Nat.le_of_ble_eq_true rfl) rfl ?_
      refine sw_lo (lo2 := [some (.ref 65), some (.int _), none]) rfl ?_
      exact y1
    · intro i hi ih d hV
      have x1 := A_X7_countTold (d := d) (r := r) (J := d2 J 65 14 (fo (cnt V n) 3643 i)) hV.2.1 hV.2.2.1 hi
      obtain ⟨d1, y1, y2⟩ := ih d hV
      refine ⟨d1, ?_, y2⟩
      refine sw_iload_n (i := 1) dX7_digest_14 rfl rfl ?_
      refine sw_bi 10 dX7_digest_15 (by decide +kernel) ?_
      refine sw_ic_ge (tgt := 36) dX7_digest_17 rfl (fun h9 => absurd h9 (nI_ge hi (by decide))) (fun _ => ?_)
      refine sw_aload_n (i := 0) dX7_digest_20 rfl rfl ?_
      refine sw_aload_n (i := 0) dX7_digest_21 rfl rfl ?_
      refine sw_iload_n (i := 1) dX7_digest_22 rfl rfl ?_
      refine px_Vx mv_X7_180 x1 rfl rfl (Nat.le_of_ble_eq_true rfl) (Nat.le_of_ble_eq_true rfl) ko_65 (Nat.le_of_ble_eq_true rfl) dX7_digest_23 ?_
      refine sw_ins (pc2 := 26) rfl rfl ?_
      refine sw_i2l dX7_digest_26 ?_
      refine px_Vv mv_X7_213 A_X7_mix rfl rfl (Nat.le_of_ble_eq_true rfl) (Nat.le_of_ble_eq_true rfl) ko_65 (Nat.le_of_ble_eq_true rfl) dX7_digest_27 ?_
      refine sw_iinc (i := 1) (v := nI (i + 1)) dX7_digest_30 rfl (nI_1 _) (Nat.le_of_ble_eq_true rfl) rfl ?_
      refine sw_lo (lo2 := [some (.ref 65), some (.int _), none]) rfl ?_
      refine sw_goto (tgt := 14) dX7_digest_33 rfl ?_
      exact y1
  have h0 := RM_th (x := nI 0) h
  have v0 : mV (d2 d 65 7 (nI 0)) = V := h0.2.1
  obtain ⟨d1, y1, y2⟩ := K1 0 (Nat.zero_le _) (d2 d 65 7 (nI 0)) h0
  obtain ⟨r1, r2, r3⟩ := RM_chg h0 ((mV_keep (y2 66 (by decide))).trans v0) (fun c q1 q2 q3 => y2 c q2)
  refine ⟨d1, d2 J 65 14 (dig V n t T tl), op_of pl_X7_digest (Nat.le_of_ble_eq_true rfl) ?_, r1, r2.trans (d2_eq _ _ _ _), fc_tr (fc_d2 (fc_refl d) (by decide)) r3⟩
  refine sw_aload_n (i := 0) dX7_digest_0 rfl rfl ?_
  refine sw_ic 0 dX7_digest_1 ?_
  refine sx_putI fp_X7_35 (by decide) kf_65_7 dX7_digest_2 ?_
  refine sw_aload_n (i := 0) dX7_digest_5 rfl rfl ?_
  refine sw_ldc2 kc_X7_217 dX7_digest_6 ?_
  refine sx_putJ fp_X7_209 (by decide) kj_65_14 dX7_digest_9 ?_
  refine sw_ic 0 dX7_digest_12 ?_
  refine sw_ins (pc2 := 13) rfl rfl ?_
  refine sw_istore_n (i := 1) dX7_digest_13 rfl (Nat.le_of_ble_eq_true rfl) rfl ?_
  refine sw_lo (lo2 := [some (.ref 65), some (.int _), none]) rfl ?_
  exact y1
