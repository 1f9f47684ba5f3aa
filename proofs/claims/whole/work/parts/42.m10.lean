/-! THE MODEL, 10: looks, inner (own work, written by wip/tools) -/
set_option maxRecDepth 100000 in
set_option maxHeartbeats 4000000 in
theorem A3_X7_sums {d : Nat → Nat → Int32} {r : Nat → Nat → Option Nat} {J : Nat → Nat → Int64} {V : Nat → Int32} (hV : mV d = V) (okM : okMany V) {a : Nat} (ha : a < 8) : OP kX7_sums yX7_sums 1 [.ref 65, .int (nI a), .int (-1)] d r J (some (.int (isl V a 3))) d r J := by
  refine op_of pl_X7_sums (Nat.le_of_ble_eq_true rfl) ?_
  have hn1 : ¬ nI a = -1 := nI_ne_m1 (by omega)
  have hm8 := okM.2
  have L : ∀ k, k ≤ nv V 1 → SW yX7_sums cX7_sums 5 (some .int) [] 1 none 5 [some (.ref 65), some (.int (nI a)), some (.int (-1)), some (.int (smt V (fun q => decide (V (51 + (q * 4 + 0)) = nI a)) k)), some (.int (nI k))] [] 75 (W0 d r J) 0 0 (.inl (some (.int (isl V a 3)))) 75 (W0 d r J) := by
    refine am_loop (nv V 1) ?_ ?_
    ·
      refine sw_iload (i := 4) dX7_sums_5 rfl ?_
      refine sw_aload_n (i := 0) dX7_sums_7 rfl rfl ?_
      refine sx_getR (q := 66) f_X7_7 (by decide) kr_65_0 dX7_sums_8 ?_
      refine sw_ic 1 dX7_sums_11 ?_
      refine sx_ialdE (1) (nI (nv V 1)) ((mV_in d (by decide) rfl).trans ((congrFun hV 1).trans okM.1)) rfl rfl (by omega) dX7_sums_12 ?_
      refine sw_ic_ge (tgt := 68) dX7_sums_13 rfl (fun _ => ?_) (fun h9 => absurd (nI_le (Nat.le_refl _) (by omega)) h9)
      refine sw_iload_n (i := 3) dX7_sums_68 rfl rfl ?_
      refine sw_ins (pc2 := 69) rfl rfl ?_
      exact sw_ireturn rfl dX7_sums_69
    · intro k hk ih
      have o0 : OP kX7_of yX7_of 0 [.ref 65, .int (nI k), .int (nI 0)] d r J (some (.int (V (51 + (k * 4 + 0))))) d r J := by
        have h9 := A_X7_of (d := d) (r := r) (J := J) (q := k) (c := 0) (by omega) (by decide)
        rw [hV] at h9
        exact h9
      have o1 : OP kX7_of yX7_of 0 [.ref 65, .int (nI k), .int (nI 1)] d r J (some (.int (V (51 + (k * 4 + 1))))) d r J := by
        have h9 := A_X7_of (d := d) (r := r) (J := J) (q := k) (c := 1) (by omega) (by decide)
        rw [hV] at h9
        exact h9
      have o2 : OP kX7_of yX7_of 0 [.ref 65, .int (nI k), .int (nI 2)] d r J (some (.int (V (51 + (k * 4 + 2))))) d r J := by
        have h9 := A_X7_of (d := d) (r := r) (J := J) (q := k) (c := 2) (by omega) (by decide)
        rw [hV] at h9
        exact h9
      by_cases c0 : V (51 + (k * 4 + 0)) = nI a
      · have hp : (fun q => decide (V (51 + (q * 4 + 0)) = nI a)) k = true := decide_eq_true c0
        refine sw_iload (i := 4) dX7_sums_5 rfl ?_
        refine sw_aload_n (i := 0) dX7_sums_7 rfl rfl ?_
        refine sx_getR (q := 66) f_X7_7 (by decide) kr_65_0 dX7_sums_8 ?_
        refine sw_ic 1 dX7_sums_11 ?_
        refine sx_ialdE (1) (nI (nv V 1)) ((mV_in d (by decide) rfl).trans ((congrFun hV 1).trans okM.1)) rfl rfl (by omega) dX7_sums_12 ?_
        refine sw_ic_ge (tgt := 68) dX7_sums_13 rfl (fun h9 => absurd h9 (nI_ge hk (by omega))) (fun _ => ?_)
        refine sw_iload_n (i := 3) dX7_sums_16 rfl rfl ?_
        refine sw_ins (pc2 := 17) rfl rfl ?_
        refine sw_iload_n (i := 1) dX7_sums_17 rfl rfl ?_
        refine sw_im1 dX7_sums_18 ?_
        refine sw_ic_eq (tgt := 33) dX7_sums_19 rfl (fun h9 => absurd h9 hn1) (fun _ => ?_)
        refine sw_aload_n (i := 0) dX7_sums_22 rfl rfl ?_
        refine sw_iload (i := 4) dX7_sums_23 rfl ?_
        refine sw_ic 0 dX7_sums_25 ?_
        refine px_Vx mv_X7_61 o0 rfl rfl (Nat.le_of_ble_eq_true rfl) (Nat.le_of_ble_eq_true rfl) ko_65 (Nat.le_of_ble_eq_true rfl) dX7_sums_26 ?_
        refine sw_iload_n (i := 1) dX7_sums_29 rfl rfl ?_
        refine sw_ins (pc2 := 30) rfl rfl ?_
        refine sw_ic_ne (tgt := 59) dX7_sums_30 rfl (fun h9 => absurd c0 h9) (fun _ => ?_)
        refine sw_iload_n (i := 2) dX7_sums_33 rfl rfl ?_
        refine sw_im1 dX7_sums_34 ?_
        refine sw_ic_eq (tgt := 49) dX7_sums_35 rfl (fun _ => ?_) (fun h9 => absurd (by decide) h9)
        refine sw_aload_n (i := 0) dX7_sums_49 rfl rfl ?_
        refine sw_iload (i := 4) dX7_sums_50 rfl ?_
        refine sw_ic 2 dX7_sums_52 ?_
        refine px_Vx mv_X7_61 o2 rfl rfl (Nat.le_of_ble_eq_true rfl) (Nat.le_of_ble_eq_true rfl) ko_65 (Nat.le_of_ble_eq_true rfl) dX7_sums_53 ?_
        refine sw_ins (pc2 := 56) rfl rfl ?_
        refine sw_goto (tgt := 60) dX7_sums_56 rfl ?_
        refine sw_iadd dX7_sums_60 ?_
        refine sw_topE (v := smt V (fun q => decide (V (51 + (q * 4 + 0)) = nI a)) (k + 1)) (by rw [smt_s, if_pos hp]) ?_
        refine sw_istore_n (i := 3) dX7_sums_61 rfl (Nat.le_of_ble_eq_true rfl) rfl ?_
        refine sw_lo (lo2 := [some (.ref 65), some (.int _), some (.int _), some (.int _), some (.int _)]) rfl ?_
        refine sw_iinc (i := 4) (v := nI (k + 1)) dX7_sums_62 rfl (nI_1 _) (Nat.le_of_ble_eq_true rfl) rfl ?_
        refine sw_lo (lo2 := [some (.ref 65), some (.int _), some (.int _), some (.int _), some (.int _)]) rfl ?_
        refine sw_goto (tgt := 5) dX7_sums_65 rfl ?_
        exact ih
      · have hp : ¬ (fun q => decide (V (51 + (q * 4 + 0)) = nI a)) k = true := by
          show ¬ decide _ = true
          rw [decide_eq_false c0]
          decide
        refine sw_iload (i := 4) dX7_sums_5 rfl ?_
        refine sw_aload_n (i := 0) dX7_sums_7 rfl rfl ?_
        refine sx_getR (q := 66) f_X7_7 (by decide) kr_65_0 dX7_sums_8 ?_
        refine sw_ic 1 dX7_sums_11 ?_
        refine sx_ialdE (1) (nI (nv V 1)) ((mV_in d (by decide) rfl).trans ((congrFun hV 1).trans okM.1)) rfl rfl (by omega) dX7_sums_12 ?_
        refine sw_ic_ge (tgt := 68) dX7_sums_13 rfl (fun h9 => absurd h9 (nI_ge hk (by omega))) (fun _ => ?_)
        refine sw_iload_n (i := 3) dX7_sums_16 rfl rfl ?_
        refine sw_ins (pc2 := 17) rfl rfl ?_
        refine sw_iload_n (i := 1) dX7_sums_17 rfl rfl ?_
        refine sw_im1 dX7_sums_18 ?_
        refine sw_ic_eq (tgt := 33) dX7_sums_19 rfl (fun h9 => absurd h9 hn1) (fun _ => ?_)
        refine sw_aload_n (i := 0) dX7_sums_22 rfl rfl ?_
        refine sw_iload (i := 4) dX7_sums_23 rfl ?_
        refine sw_ic 0 dX7_sums_25 ?_
        refine px_Vx mv_X7_61 o0 rfl rfl (Nat.le_of_ble_eq_true rfl) (Nat.le_of_ble_eq_true rfl) ko_65 (Nat.le_of_ble_eq_true rfl) dX7_sums_26 ?_
        refine sw_iload_n (i := 1) dX7_sums_29 rfl rfl ?_
        refine sw_ins (pc2 := 30) rfl rfl ?_
        refine sw_ic_ne (tgt := 59) dX7_sums_30 rfl (fun _ => ?_) (fun h9 => absurd h9 c0)
        refine sw_ic 0 dX7_sums_59 ?_
        refine sw_iadd dX7_sums_60 ?_
        refine sw_topE (v := smt V (fun q => decide (V (51 + (q * 4 + 0)) = nI a)) (k + 1)) (by rw [smt_s, if_neg hp]; exact Int32.add_zero _) ?_
        refine sw_istore_n (i := 3) dX7_sums_61 rfl (Nat.le_of_ble_eq_true rfl) rfl ?_
        refine sw_lo (lo2 := [some (.ref 65), some (.int _), some (.int _), some (.int _), some (.int _)]) rfl ?_
        refine sw_iinc (i := 4) (v := nI (k + 1)) dX7_sums_62 rfl (nI_1 _) (Nat.le_of_ble_eq_true rfl) rfl ?_
        refine sw_lo (lo2 := [some (.ref 65), some (.int _), some (.int _), some (.int _), some (.int _)]) rfl ?_
        refine sw_goto (tgt := 5) dX7_sums_65 rfl ?_
        exact ih
  refine sw_ic 0 dX7_sums_0 ?_
  refine sw_istore_n (i := 3) dX7_sums_1 rfl (Nat.le_of_ble_eq_true rfl) rfl ?_
  refine sw_lo (lo2 := [some (.ref 65), some (.int _), some (.int _), some (.int _), none]) rfl ?_
  refine sw_ic 0 dX7_sums_2 ?_
  refine sw_istore (i := 4) dX7_sums_3 (Nat.le_of_ble_eq_true rfl) rfl ?_
  refine sw_lo (lo2 := [some (.ref 65), some (.int _), some (.int _), some (.int _), some (.int _)]) rfl ?_
  exact L 0 (Nat.zero_le _)
set_option maxRecDepth 100000 in
set_option maxHeartbeats 4000000 in
theorem A4_X7_sums {d : Nat → Nat → Int32} {r : Nat → Nat → Option Nat} {J : Nat → Nat → Int64} {V : Nat → Int32} (hV : mV d = V) (okM : okMany V) {a : Nat} (ha : a < 8) : OP kX7_sums yX7_sums 1 [.ref 65, .int (-1), .int (nI a)] d r J (some (.int (isl V a 4))) d r J := by
  refine op_of pl_X7_sums (Nat.le_of_ble_eq_true rfl) ?_
  have hn2 : ¬ nI a = -1 := nI_ne_m1 (by omega)
  have hm8 := okM.2
  have L : ∀ k, k ≤ nv V 1 → SW yX7_sums cX7_sums 5 (some .int) [] 1 none 5 [some (.ref 65), some (.int (-1)), some (.int (nI a)), some (.int (smt V (fun q => decide (V (51 + (q * 4 + 1)) = nI a)) k)), some (.int (nI k))] [] 75 (W0 d r J) 0 0 (.inl (some (.int (isl V a 4)))) 75 (W0 d r J) := by
    refine am_loop (nv V 1) ?_ ?_
    ·
      refine sw_iload (i := 4) dX7_sums_5 rfl ?_
      refine sw_aload_n (i := 0) dX7_sums_7 rfl rfl ?_
      refine sx_getR (q := 66) f_X7_7 (by decide) kr_65_0 dX7_sums_8 ?_
      refine sw_ic 1 dX7_sums_11 ?_
      refine sx_ialdE (1) (nI (nv V 1)) ((mV_in d (by decide) rfl).trans ((congrFun hV 1).trans okM.1)) rfl rfl (by omega) dX7_sums_12 ?_
      refine sw_ic_ge (tgt := 68) dX7_sums_13 rfl (fun _ => ?_) (fun h9 => absurd (nI_le (Nat.le_refl _) (by omega)) h9)
      refine sw_iload_n (i := 3) dX7_sums_68 rfl rfl ?_
      refine sw_ins (pc2 := 69) rfl rfl ?_
      exact sw_ireturn rfl dX7_sums_69
    · intro k hk ih
      have o0 : OP kX7_of yX7_of 0 [.ref 65, .int (nI k), .int (nI 0)] d r J (some (.int (V (51 + (k * 4 + 0))))) d r J := by
        have h9 := A_X7_of (d := d) (r := r) (J := J) (q := k) (c := 0) (by omega) (by decide)
        rw [hV] at h9
        exact h9
      have o1 : OP kX7_of yX7_of 0 [.ref 65, .int (nI k), .int (nI 1)] d r J (some (.int (V (51 + (k * 4 + 1))))) d r J := by
        have h9 := A_X7_of (d := d) (r := r) (J := J) (q := k) (c := 1) (by omega) (by decide)
        rw [hV] at h9
        exact h9
      have o2 : OP kX7_of yX7_of 0 [.ref 65, .int (nI k), .int (nI 2)] d r J (some (.int (V (51 + (k * 4 + 2))))) d r J := by
        have h9 := A_X7_of (d := d) (r := r) (J := J) (q := k) (c := 2) (by omega) (by decide)
        rw [hV] at h9
        exact h9
      by_cases c0 : V (51 + (k * 4 + 1)) = nI a
      · have hp : (fun q => decide (V (51 + (q * 4 + 1)) = nI a)) k = true := decide_eq_true c0
        refine sw_iload (i := 4) dX7_sums_5 rfl ?_
        refine sw_aload_n (i := 0) dX7_sums_7 rfl rfl ?_
        refine sx_getR (q := 66) f_X7_7 (by decide) kr_65_0 dX7_sums_8 ?_
        refine sw_ic 1 dX7_sums_11 ?_
        refine sx_ialdE (1) (nI (nv V 1)) ((mV_in d (by decide) rfl).trans ((congrFun hV 1).trans okM.1)) rfl rfl (by omega) dX7_sums_12 ?_
        refine sw_ic_ge (tgt := 68) dX7_sums_13 rfl (fun h9 => absurd h9 (nI_ge hk (by omega))) (fun _ => ?_)
        refine sw_iload_n (i := 3) dX7_sums_16 rfl rfl ?_
        refine sw_ins (pc2 := 17) rfl rfl ?_
        refine sw_iload_n (i := 1) dX7_sums_17 rfl rfl ?_
        refine sw_im1 dX7_sums_18 ?_
        refine sw_ic_eq (tgt := 33) dX7_sums_19 rfl (fun _ => ?_) (fun h9 => absurd (by decide) h9)
        refine sw_iload_n (i := 2) dX7_sums_33 rfl rfl ?_
        refine sw_im1 dX7_sums_34 ?_
        refine sw_ic_eq (tgt := 49) dX7_sums_35 rfl (fun h9 => absurd h9 hn2) (fun _ => ?_)
        refine sw_aload_n (i := 0) dX7_sums_38 rfl rfl ?_
        refine sw_iload (i := 4) dX7_sums_39 rfl ?_
        refine sw_ins (pc2 := 41) rfl rfl ?_
        refine sw_ic 1 dX7_sums_41 ?_
        refine px_Vx mv_X7_61 o1 rfl rfl (Nat.le_of_ble_eq_true rfl) (Nat.le_of_ble_eq_true rfl) ko_65 (Nat.le_of_ble_eq_true rfl) dX7_sums_42 ?_
        refine sw_iload_n (i := 2) dX7_sums_45 rfl rfl ?_
        refine sw_ic_ne (tgt := 59) dX7_sums_46 rfl (fun h9 => absurd c0 h9) (fun _ => ?_)
        refine sw_aload_n (i := 0) dX7_sums_49 rfl rfl ?_
        refine sw_iload (i := 4) dX7_sums_50 rfl ?_
        refine sw_ic 2 dX7_sums_52 ?_
        refine px_Vx mv_X7_61 o2 rfl rfl (Nat.le_of_ble_eq_true rfl) (Nat.le_of_ble_eq_true rfl) ko_65 (Nat.le_of_ble_eq_true rfl) dX7_sums_53 ?_
        refine sw_ins (pc2 := 56) rfl rfl ?_
        refine sw_goto (tgt := 60) dX7_sums_56 rfl ?_
        refine sw_iadd dX7_sums_60 ?_
        refine sw_topE (v := smt V (fun q => decide (V (51 + (q * 4 + 1)) = nI a)) (k + 1)) (by rw [smt_s, if_pos hp]) ?_
        refine sw_istore_n (i := 3) dX7_sums_61 rfl (Nat.le_of_ble_eq_true rfl) rfl ?_
        refine sw_lo (lo2 := [some (.ref 65), some (.int _), some (.int _), some (.int _), some (.int _)]) rfl ?_
        refine sw_iinc (i := 4) (v := nI (k + 1)) dX7_sums_62 rfl (nI_1 _) (Nat.le_of_ble_eq_true rfl) rfl ?_
        refine sw_lo (lo2 := [some (.ref 65), some (.int _), some (.int _), some (.int _), some (.int _)]) rfl ?_
        refine sw_goto (tgt := 5) dX7_sums_65 rfl ?_
        exact ih
      · have hp : ¬ (fun q => decide (V (51 + (q * 4 + 1)) = nI a)) k = true := by
          show ¬ decide _ = true
          rw [decide_eq_false c0]
          decide
        refine sw_iload (i := 4) dX7_sums_5 rfl ?_
        refine sw_aload_n (i := 0) dX7_sums_7 rfl rfl ?_
        refine sx_getR (q := 66) f_X7_7 (by decide) kr_65_0 dX7_sums_8 ?_
        refine sw_ic 1 dX7_sums_11 ?_
        refine sx_ialdE (1) (nI (nv V 1)) ((mV_in d (by decide) rfl).trans ((congrFun hV 1).trans okM.1)) rfl rfl (by omega) dX7_sums_12 ?_
        refine sw_ic_ge (tgt := 68) dX7_sums_13 rfl (fun h9 => absurd h9 (nI_ge hk (by omega))) (fun _ => ?_)
        refine sw_iload_n (i := 3) dX7_sums_16 rfl rfl ?_
        refine sw_ins (pc2 := 17) rfl rfl ?_
        refine sw_iload_n (i := 1) dX7_sums_17 rfl rfl ?_
        refine sw_im1 dX7_sums_18 ?_
        refine sw_ic_eq (tgt := 33) dX7_sums_19 rfl (fun _ => ?_) (fun h9 => absurd (by decide) h9)
        refine sw_iload_n (i := 2) dX7_sums_33 rfl rfl ?_
        refine sw_im1 dX7_sums_34 ?_
        refine sw_ic_eq (tgt := 49) dX7_sums_35 rfl (fun h9 => absurd h9 hn2) (fun _ => ?_)
        refine sw_aload_n (i := 0) dX7_sums_38 rfl rfl ?_
        refine sw_iload (i := 4) dX7_sums_39 rfl ?_
        refine sw_ins (pc2 := 41) rfl rfl ?_
        refine sw_ic 1 dX7_sums_41 ?_
        refine px_Vx mv_X7_61 o1 rfl rfl (Nat.le_of_ble_eq_true rfl) (Nat.le_of_ble_eq_true rfl) ko_65 (Nat.le_of_ble_eq_true rfl) dX7_sums_42 ?_
        refine sw_iload_n (i := 2) dX7_sums_45 rfl rfl ?_
        refine sw_ic_ne (tgt := 59) dX7_sums_46 rfl (fun _ => ?_) (fun h9 => absurd h9 c0)
        refine sw_ic 0 dX7_sums_59 ?_
        refine sw_iadd dX7_sums_60 ?_
        refine sw_topE (v := smt V (fun q => decide (V (51 + (q * 4 + 1)) = nI a)) (k + 1)) (by rw [smt_s, if_neg hp]; exact Int32.add_zero _) ?_
        refine sw_istore_n (i := 3) dX7_sums_61 rfl (Nat.le_of_ble_eq_true rfl) rfl ?_
        refine sw_lo (lo2 := [some (.ref 65), some (.int _), some (.int _), some (.int _), some (.int _)]) rfl ?_
        refine sw_iinc (i := 4) (v := nI (k + 1)) dX7_sums_62 rfl (nI_1 _) (Nat.le_of_ble_eq_true rfl) rfl ?_
        refine sw_lo (lo2 := [some (.ref 65), some (.int _), some (.int _), some (.int _), some (.int _)]) rfl ?_
        refine sw_ins (pc2 := 65) rfl rfl ?_
        refine sw_goto (tgt := 5) dX7_sums_65 rfl ?_
        exact ih
  refine sw_ic 0 dX7_sums_0 ?_
  refine sw_istore_n (i := 3) dX7_sums_1 rfl (Nat.le_of_ble_eq_true rfl) rfl ?_
  refine sw_lo (lo2 := [some (.ref 65), some (.int _), some (.int _), some (.int _), none]) rfl ?_
  refine sw_ic 0 dX7_sums_2 ?_
  refine sw_istore (i := 4) dX7_sums_3 (Nat.le_of_ble_eq_true rfl) rfl ?_
  refine sw_lo (lo2 := [some (.ref 65), some (.int _), some (.int _), some (.int _), some (.int _)]) rfl ?_
  exact L 0 (Nat.zero_le _)
set_option maxRecDepth 100000 in
set_option maxHeartbeats 4000000 in
theorem A2_X7_sums {d : Nat → Nat → Int32} {r : Nat → Nat → Option Nat} {J : Nat → Nat → Int64} {V : Nat → Int32} (hV : mV d = V) (okM : okMany V) {a b : Nat} (ha : a < 8) (hb : b < 8) : OP kX7_sums yX7_sums 1 [.ref 65, .int (nI a), .int (nI b)] d r J (some (.int (owd V a b))) d r J := by
  refine op_of pl_X7_sums (Nat.le_of_ble_eq_true rfl) ?_
  have hn1 : ¬ nI a = -1 := nI_ne_m1 (by omega)
  have hn2 : ¬ nI b = -1 := nI_ne_m1 (by omega)
  have hm8 := okM.2
  have L : ∀ k, k ≤ nv V 1 → SW yX7_sums cX7_sums 5 (some .int) [] 1 none 5 [some (.ref 65), some (.int (nI a)), some (.int (nI b)), some (.int (smt V (fun q => decide (V (51 + (q * 4 + 0)) = nI a) && decide (V (51 + (q * 4 + 1)) = nI b)) k)), some (.int (nI k))] [] 75 (W0 d r J) 0 0 (.inl (some (.int (owd V a b)))) 75 (W0 d r J) := by
    refine am_loop (nv V 1) ?_ ?_
    ·
      refine sw_iload (i := 4) dX7_sums_5 rfl ?_
      refine sw_aload_n (i := 0) dX7_sums_7 rfl rfl ?_
      refine sx_getR (q := 66) f_X7_7 (by decide) kr_65_0 dX7_sums_8 ?_
      refine sw_ic 1 dX7_sums_11 ?_
      refine sx_ialdE (1) (nI (nv V 1)) ((mV_in d (by decide) rfl).trans ((congrFun hV 1).trans okM.1)) rfl rfl (by omega) dX7_sums_12 ?_
      refine sw_ic_ge (tgt := 68) dX7_sums_13 rfl (fun _ => ?_) (fun h9 => absurd (nI_le (Nat.le_refl _) (by omega)) h9)
      refine sw_iload_n (i := 3) dX7_sums_68 rfl rfl ?_
      refine sw_ins (pc2 := 69) rfl rfl ?_
      exact sw_ireturn rfl dX7_sums_69
    · intro k hk ih
      have o0 : OP kX7_of yX7_of 0 [.ref 65, .int (nI k), .int (nI 0)] d r J (some (.int (V (51 + (k * 4 + 0))))) d r J := by
        have h9 := A_X7_of (d := d) (r := r) (J := J) (q := k) (c := 0) (by omega) (by decide)
        rw [hV] at h9
        exact h9
      have o1 : OP kX7_of yX7_of 0 [.ref 65, .int (nI k), .int (nI 1)] d r J (some (.int (V (51 + (k * 4 + 1))))) d r J := by
        have h9 := A_X7_of (d := d) (r := r) (J := J) (q := k) (c := 1) (by omega) (by decide)
        rw [hV] at h9
        exact h9
      have o2 : OP kX7_of yX7_of 0 [.ref 65, .int (nI k), .int (nI 2)] d r J (some (.int (V (51 + (k * 4 + 2))))) d r J := by
        have h9 := A_X7_of (d := d) (r := r) (J := J) (q := k) (c := 2) (by omega) (by decide)
        rw [hV] at h9
        exact h9
      by_cases c0 : V (51 + (k * 4 + 0)) = nI a
      · by_cases c1 : V (51 + (k * 4 + 1)) = nI b
        · have hp : (fun q => decide (V (51 + (q * 4 + 0)) = nI a) && decide (V (51 + (q * 4 + 1)) = nI b)) k = true := by
            show (decide _ && decide _) = true
            rw [decide_eq_true c0, decide_eq_true c1]
            rfl
          refine sw_iload (i := 4) dX7_sums_5 rfl ?_
          refine sw_aload_n (i := 0) dX7_sums_7 rfl rfl ?_
          refine sx_getR (q := 66) f_X7_7 (by decide) kr_65_0 dX7_sums_8 ?_
          refine sw_ic 1 dX7_sums_11 ?_
          refine sx_ialdE (1) (nI (nv V 1)) ((mV_in d (by decide) rfl).trans ((congrFun hV 1).trans okM.1)) rfl rfl (by omega) dX7_sums_12 ?_
          refine sw_ic_ge (tgt := 68) dX7_sums_13 rfl (fun h9 => absurd h9 (nI_ge hk (by omega))) (fun _ => ?_)
          refine sw_iload_n (i := 3) dX7_sums_16 rfl rfl ?_
          refine sw_ins (pc2 := 17) rfl rfl ?_
          refine sw_iload_n (i := 1) dX7_sums_17 rfl rfl ?_
          refine sw_im1 dX7_sums_18 ?_
          refine sw_ic_eq (tgt := 33) dX7_sums_19 rfl (fun h9 => absurd h9 hn1) (fun _ => ?_)
          refine sw_aload_n (i := 0) dX7_sums_22 rfl rfl ?_
          refine sw_iload (i := 4) dX7_sums_23 rfl ?_
          refine sw_ic 0 dX7_sums_25 ?_
          refine px_Vx mv_X7_61 o0 rfl rfl (Nat.le_of_ble_eq_true rfl) (Nat.le_of_ble_eq_true rfl) ko_65 (Nat.le_of_ble_eq_true rfl) dX7_sums_26 ?_
          refine sw_iload_n (i := 1) dX7_sums_29 rfl rfl ?_
          refine sw_ins (pc2 := 30) rfl rfl ?_
          refine sw_ic_ne (tgt := 59) dX7_sums_30 rfl (fun h9 => absurd c0 h9) (fun _ => ?_)
          refine sw_iload_n (i := 2) dX7_sums_33 rfl rfl ?_
          refine sw_im1 dX7_sums_34 ?_
          refine sw_ic_eq (tgt := 49) dX7_sums_35 rfl (fun h9 => absurd h9 hn2) (fun _ => ?_)
          refine sw_aload_n (i := 0) dX7_sums_38 rfl rfl ?_
          refine sw_iload (i := 4) dX7_sums_39 rfl ?_
          refine sw_ic 1 dX7_sums_41 ?_
          refine px_Vx mv_X7_61 o1 rfl rfl (Nat.le_of_ble_eq_true rfl) (Nat.le_of_ble_eq_true rfl) ko_65 (Nat.le_of_ble_eq_true rfl) dX7_sums_42 ?_
          refine sw_ins (pc2 := 45) rfl rfl ?_
          refine sw_iload_n (i := 2) dX7_sums_45 rfl rfl ?_
          refine sw_ic_ne (tgt := 59) dX7_sums_46 rfl (fun h9 => absurd c1 h9) (fun _ => ?_)
          refine sw_aload_n (i := 0) dX7_sums_49 rfl rfl ?_
          refine sw_iload (i := 4) dX7_sums_50 rfl ?_
          refine sw_ic 2 dX7_sums_52 ?_
          refine px_Vx mv_X7_61 o2 rfl rfl (Nat.le_of_ble_eq_true rfl) (Nat.le_of_ble_eq_true rfl) ko_65 (Nat.le_of_ble_eq_true rfl) dX7_sums_53 ?_
          refine sw_goto (tgt := 60) dX7_sums_56 rfl ?_
          refine sw_iadd dX7_sums_60 ?_
          refine sw_topE (v := smt V (fun q => decide (V (51 + (q * 4 + 0)) = nI a) && decide (V (51 + (q * 4 + 1)) = nI b)) (k + 1)) (by rw [smt_s, if_pos hp]) ?_
          refine sw_ins (pc2 := 61) rfl rfl ?_
          refine sw_istore_n (i := 3) dX7_sums_61 rfl (Nat.le_of_ble_eq_true rfl) rfl ?_
          refine sw_lo (lo2 := [some (.ref 65), some (.int _), some (.int _), some (.int _), some (.int _)]) rfl ?_
          refine sw_iinc (i := 4) (v := nI (k + 1)) dX7_sums_62 rfl (nI_1 _) (Nat.le_of_ble_eq_true rfl) rfl ?_
          refine sw_lo (lo2 := [some (.ref 65), some (.int _), some (.int _), some (.int _), some (.int _)]) rfl ?_
          refine sw_goto (tgt := 5) dX7_sums_65 rfl ?_
          exact ih
        · have hp : ¬ (fun q => decide (V (51 + (q * 4 + 0)) = nI a) && decide (V (51 + (q * 4 + 1)) = nI b)) k = true := by
            show ¬ (decide _ && decide _) = true
            rw [decide_eq_true c0, decide_eq_false c1]
            decide
          refine sw_iload (i := 4) dX7_sums_5 rfl ?_
          refine sw_aload_n (i := 0) dX7_sums_7 rfl rfl ?_
          refine sx_getR (q := 66) f_X7_7 (by decide) kr_65_0 dX7_sums_8 ?_
          refine sw_ic 1 dX7_sums_11 ?_
          refine sx_ialdE (1) (nI (nv V 1)) ((mV_in d (by decide) rfl).trans ((congrFun hV 1).trans okM.1)) rfl rfl (by omega) dX7_sums_12 ?_
          refine sw_ic_ge (tgt := 68) dX7_sums_13 rfl (fun h9 => absurd h9 (nI_ge hk (by omega))) (fun _ => ?_)
          refine sw_iload_n (i := 3) dX7_sums_16 rfl rfl ?_
          refine sw_ins (pc2 := 17) rfl rfl ?_
          refine sw_iload_n (i := 1) dX7_sums_17 rfl rfl ?_
          refine sw_im1 dX7_sums_18 ?_
          refine sw_ic_eq (tgt := 33) dX7_sums_19 rfl (fun h9 => absurd h9 hn1) (fun _ => ?_)
          refine sw_aload_n (i := 0) dX7_sums_22 rfl rfl ?_
          refine sw_iload (i := 4) dX7_sums_23 rfl ?_
          refine sw_ic 0 dX7_sums_25 ?_
          refine px_Vx mv_X7_61 o0 rfl rfl (Nat.le_of_ble_eq_true rfl) (Nat.le_of_ble_eq_true rfl) ko_65 (Nat.le_of_ble_eq_true rfl) dX7_sums_26 ?_
          refine sw_iload_n (i := 1) dX7_sums_29 rfl rfl ?_
          refine sw_ins (pc2 := 30) rfl rfl ?_
          refine sw_ic_ne (tgt := 59) dX7_sums_30 rfl (fun h9 => absurd c0 h9) (fun _ => ?_)
          refine sw_iload_n (i := 2) dX7_sums_33 rfl rfl ?_
          refine sw_im1 dX7_sums_34 ?_
          refine sw_ic_eq (tgt := 49) dX7_sums_35 rfl (fun h9 => absurd h9 hn2) (fun _ => ?_)
          refine sw_aload_n (i := 0) dX7_sums_38 rfl rfl ?_
          refine sw_iload (i := 4) dX7_sums_39 rfl ?_
          refine sw_ic 1 dX7_sums_41 ?_
          refine px_Vx mv_X7_61 o1 rfl rfl (Nat.le_of_ble_eq_true rfl) (Nat.le_of_ble_eq_true rfl) ko_65 (Nat.le_of_ble_eq_true rfl) dX7_sums_42 ?_
          refine sw_ins (pc2 := 45) rfl rfl ?_
          refine sw_iload_n (i := 2) dX7_sums_45 rfl rfl ?_
          refine sw_ic_ne (tgt := 59) dX7_sums_46 rfl (fun _ => ?_) (fun h9 => absurd h9 c1)
          refine sw_ic 0 dX7_sums_59 ?_
          refine sw_iadd dX7_sums_60 ?_
          refine sw_topE (v := smt V (fun q => decide (V (51 + (q * 4 + 0)) = nI a) && decide (V (51 + (q * 4 + 1)) = nI b)) (k + 1)) (by rw [smt_s, if_neg hp]; exact Int32.add_zero _) ?_
          refine sw_istore_n (i := 3) dX7_sums_61 rfl (Nat.le_of_ble_eq_true rfl) rfl ?_
          refine sw_lo (lo2 := [some (.ref 65), some (.int _), some (.int _), some (.int _), some (.int _)]) rfl ?_
          refine sw_iinc (i := 4) (v := nI (k + 1)) dX7_sums_62 rfl (nI_1 _) (Nat.le_of_ble_eq_true rfl) rfl ?_
          refine sw_lo (lo2 := [some (.ref 65), some (.int _), some (.int _), some (.int _), some (.int _)]) rfl ?_
          refine sw_goto (tgt := 5) dX7_sums_65 rfl ?_
          exact ih
      · have hp : ¬ (fun q => decide (V (51 + (q * 4 + 0)) = nI a) && decide (V (51 + (q * 4 + 1)) = nI b)) k = true := by
          show ¬ (decide _ && decide _) = true
          rw [decide_eq_false c0, Bool.false_and]
          decide
        refine sw_iload (i := 4) dX7_sums_5 rfl ?_
        refine sw_aload_n (i := 0) dX7_sums_7 rfl rfl ?_
        refine sx_getR (q := 66) f_X7_7 (by decide) kr_65_0 dX7_sums_8 ?_
        refine sw_ic 1 dX7_sums_11 ?_
        refine sx_ialdE (1) (nI (nv V 1)) ((mV_in d (by decide) rfl).trans ((congrFun hV 1).trans okM.1)) rfl rfl (by omega) dX7_sums_12 ?_
        refine sw_ic_ge (tgt := 68) dX7_sums_13 rfl (fun h9 => absurd h9 (nI_ge hk (by omega))) (fun _ => ?_)
        refine sw_iload_n (i := 3) dX7_sums_16 rfl rfl ?_
        refine sw_ins (pc2 := 17) rfl rfl ?_
        refine sw_iload_n (i := 1) dX7_sums_17 rfl rfl ?_
        refine sw_im1 dX7_sums_18 ?_
        refine sw_ic_eq (tgt := 33) dX7_sums_19 rfl (fun h9 => absurd h9 hn1) (fun _ => ?_)
        refine sw_aload_n (i := 0) dX7_sums_22 rfl rfl ?_
        refine sw_iload (i := 4) dX7_sums_23 rfl ?_
        refine sw_ic 0 dX7_sums_25 ?_
        refine px_Vx mv_X7_61 o0 rfl rfl (Nat.le_of_ble_eq_true rfl) (Nat.le_of_ble_eq_true rfl) ko_65 (Nat.le_of_ble_eq_true rfl) dX7_sums_26 ?_
        refine sw_iload_n (i := 1) dX7_sums_29 rfl rfl ?_
        refine sw_ins (pc2 := 30) rfl rfl ?_
        refine sw_ic_ne (tgt := 59) dX7_sums_30 rfl (fun _ => ?_) (fun h9 => absurd h9 c0)
        refine sw_ic 0 dX7_sums_59 ?_
        refine sw_iadd dX7_sums_60 ?_
        refine sw_topE (v := smt V (fun q => decide (V (51 + (q * 4 + 0)) = nI a) && decide (V (51 + (q * 4 + 1)) = nI b)) (k + 1)) (by rw [smt_s, if_neg hp]; exact Int32.add_zero _) ?_
        refine sw_istore_n (i := 3) dX7_sums_61 rfl (Nat.le_of_ble_eq_true rfl) rfl ?_
        refine sw_lo (lo2 := [some (.ref 65), some (.int _), some (.int _), some (.int _), some (.int _)]) rfl ?_
        refine sw_iinc (i := 4) (v := nI (k + 1)) dX7_sums_62 rfl (nI_1 _) (Nat.le_of_ble_eq_true rfl) rfl ?_
        refine sw_lo (lo2 := [some (.ref 65), some (.int _), some (.int _), some (.int _), some (.int _)]) rfl ?_
        refine sw_goto (tgt := 5) dX7_sums_65 rfl ?_
        exact ih
  refine sw_ic 0 dX7_sums_0 ?_
  refine sw_istore_n (i := 3) dX7_sums_1 rfl (Nat.le_of_ble_eq_true rfl) rfl ?_
  refine sw_lo (lo2 := [some (.ref 65), some (.int _), some (.int _), some (.int _), none]) rfl ?_
  refine sw_ic 0 dX7_sums_2 ?_
  refine sw_istore (i := 4) dX7_sums_3 (Nat.le_of_ble_eq_true rfl) rfl ?_
  refine sw_lo (lo2 := [some (.ref 65), some (.int _), some (.int _), some (.int _), some (.int _)]) rfl ?_
  exact L 0 (Nat.zero_le _)
set_option maxRecDepth 100000 in
set_option maxHeartbeats 4000000 in
theorem A0_X7_islanderTold {d : Nat → Nat → Int32} {r : Nat → Nat → Option Nat} {J : Nat → Nat → Int64} {V : Nat → Int32} (hV : mV d = V) (okP : okPath V) (okM : okMany V) {a : Nat} (ha : a < 8) : OP kX7_islanderTold yX7_islanderTold 2 [.ref 65, .int (nI a), .int (nI 0)] d r J (some (.int (isl V a 0))) d r J := by
  refine op_of pl_X7_islanderTold (Nat.le_of_ble_eq_true rfl) ?_
  have g0 := A_X7_worthOf (d := d) (r := r) (J := J) ha
  rw [hV] at g0
  refine sw_iload_n (i := 2) dX7_islanderTold_0 rfl rfl ?_
  refine sw_tabIn (off := 31) (tgt := 32) dX7_islanderTold_1 (by decide) (by decide) (by decide) (by decide) ?_
  refine sw_aload_n (i := 0) dX7_islanderTold_32 rfl rfl ?_
  refine sw_iload_n (i := 1) dX7_islanderTold_33 rfl rfl ?_
  refine px_Vx mv_X7_167 g0 rfl rfl (Nat.le_of_ble_eq_true rfl) (Nat.le_of_ble_eq_true rfl) ko_65 (Nat.le_of_ble_eq_true rfl) dX7_islanderTold_34 ?_
  exact sw_ireturn rfl dX7_islanderTold_37
set_option maxRecDepth 100000 in
set_option maxHeartbeats 4000000 in
theorem A1_X7_islanderTold {d : Nat → Nat → Int32} {r : Nat → Nat → Option Nat} {J : Nat → Nat → Int64} {V : Nat → Int32} (hV : mV d = V) (okP : okPath V) (okM : okMany V) {a : Nat} (ha : a < 8) : OP kX7_islanderTold yX7_islanderTold 2 [.ref 65, .int (nI a), .int (nI 1)] d r J (some (.int (isl V a 1))) d r J := by
  refine op_of pl_X7_islanderTold (Nat.le_of_ble_eq_true rfl) ?_
  refine sw_iload_n (i := 2) dX7_islanderTold_0 rfl rfl ?_
  refine sw_tabIn (off := 37) (tgt := 38) dX7_islanderTold_1 (by decide) (by decide) (by decide) (by decide) ?_
  refine sw_aload_n (i := 0) dX7_islanderTold_38 rfl rfl ?_
  refine sx_getR (q := 66) f_X7_7 (by decide) kr_65_0 dX7_islanderTold_39 ?_
  refine sw_bi 11 dX7_islanderTold_42 (by decide +kernel) ?_
  refine sw_iload_n (i := 1) dX7_islanderTold_44 rfl rfl ?_
  refine sw_iadd dX7_islanderTold_45 ?_
  refine sw_ins (pc2 := 46) rfl rfl ?_
  refine sx_ialdE (11 + a) (V (11 + a)) ((mV_in d (by omega) rfl).trans (congrFun hV _)) rfl (by simp only [nI_add, pk_mul]) (by omega) dX7_islanderTold_46 ?_
  exact sw_ireturn rfl dX7_islanderTold_47
set_option maxRecDepth 100000 in
set_option maxHeartbeats 4000000 in
theorem A2_X7_islanderTold {d : Nat → Nat → Int32} {r : Nat → Nat → Option Nat} {J : Nat → Nat → Int64} {V : Nat → Int32} (hV : mV d = V) (okP : okPath V) (okM : okMany V) {a : Nat} (ha : a < 8) : OP kX7_islanderTold yX7_islanderTold 2 [.ref 65, .int (nI a), .int (nI 2)] d r J (some (.int (isl V a 2))) d r J := by
  refine op_of pl_X7_islanderTold (Nat.le_of_ble_eq_true rfl) ?_
  have g0 := A_X7_circle (d := d) (r := r) (J := J) (by rw [hV]; exact okP) ha
  rw [hV] at g0
  refine sw_iload_n (i := 2) dX7_islanderTold_0 rfl rfl ?_
  refine sw_tabIn (off := 47) (tgt := 48) dX7_islanderTold_1 (by decide) (by decide) (by decide) (by decide) ?_
  refine sw_aload_n (i := 0) dX7_islanderTold_48 rfl rfl ?_
  refine sw_iload_n (i := 1) dX7_islanderTold_49 rfl rfl ?_
  refine px_Vx mv_X7_70 g0 rfl rfl (Nat.le_of_ble_eq_true rfl) (Nat.le_of_ble_eq_true rfl) ko_65 (Nat.le_of_ble_eq_true rfl) dX7_islanderTold_50 ?_
  exact sw_ireturn rfl dX7_islanderTold_53
set_option maxRecDepth 100000 in
set_option maxHeartbeats 4000000 in
theorem A3_X7_islanderTold {d : Nat → Nat → Int32} {r : Nat → Nat → Option Nat} {J : Nat → Nat → Int64} {V : Nat → Int32} (hV : mV d = V) (okP : okPath V) (okM : okMany V) {a : Nat} (ha : a < 8) : OP kX7_islanderTold yX7_islanderTold 2 [.ref 65, .int (nI a), .int (nI 3)] d r J (some (.int (isl V a 3))) d r J := by
  refine op_of pl_X7_islanderTold (Nat.le_of_ble_eq_true rfl) ?_
  have g0 := A3_X7_sums (d := d) (r := r) (J := J) hV okM ha
  refine sw_iload_n (i := 2) dX7_islanderTold_0 rfl rfl ?_
  refine sw_tabIn (off := 53) (tgt := 54) dX7_islanderTold_1 (by decide) (by decide) (by decide) (by decide) ?_
  refine sw_aload_n (i := 0) dX7_islanderTold_54 rfl rfl ?_
  refine sw_iload_n (i := 1) dX7_islanderTold_55 rfl rfl ?_
  refine sw_im1 dX7_islanderTold_56 ?_
  refine px_Vx mv_X7_170 g0 rfl rfl (Nat.le_of_ble_eq_true rfl) (Nat.le_of_ble_eq_true rfl) ko_65 (Nat.le_of_ble_eq_true rfl) dX7_islanderTold_57 ?_
  exact sw_ireturn rfl dX7_islanderTold_60
set_option maxRecDepth 100000 in
set_option maxHeartbeats 4000000 in
theorem A4_X7_islanderTold {d : Nat → Nat → Int32} {r : Nat → Nat → Option Nat} {J : Nat → Nat → Int64} {V : Nat → Int32} (hV : mV d = V) (okP : okPath V) (okM : okMany V) {a : Nat} (ha : a < 8) : OP kX7_islanderTold yX7_islanderTold 2 [.ref 65, .int (nI a), .int (nI 4)] d r J (some (.int (isl V a 4))) d r J := by
  refine op_of pl_X7_islanderTold (Nat.le_of_ble_eq_true rfl) ?_
  have g0 := A4_X7_sums (d := d) (r := r) (J := J) hV okM ha
  refine sw_iload_n (i := 2) dX7_islanderTold_0 rfl rfl ?_
  refine sw_tabOut (tgt := 61) dX7_islanderTold_1 (by decide) (by decide) ?_
  refine sw_aload_n (i := 0) dX7_islanderTold_61 rfl rfl ?_
  refine sw_im1 dX7_islanderTold_62 ?_
  refine sw_iload_n (i := 1) dX7_islanderTold_63 rfl rfl ?_
  refine px_Vx mv_X7_170 g0 rfl rfl (Nat.le_of_ble_eq_true rfl) (Nat.le_of_ble_eq_true rfl) ko_65 (Nat.le_of_ble_eq_true rfl) dX7_islanderTold_64 ?_
  exact sw_ireturn rfl dX7_islanderTold_67
theorem A_X7_islanderTold {d : Nat → Nat → Int32} {r : Nat → Nat → Option Nat} {J : Nat → Nat → Int64} {V : Nat → Int32} (hV : mV d = V) (okP : okPath V) (okM : okMany V) {a k : Nat} (ha : a < 8) (hk : k < 5) : OP kX7_islanderTold yX7_islanderTold 2 [.ref 65, .int (nI a), .int (nI k)] d r J (some (.int (isl V a k))) d r J := by
  match k, hk with
  | 0, _ => exact A0_X7_islanderTold hV okP okM ha
  | 1, _ => exact A1_X7_islanderTold hV okP okM ha
  | 2, _ => exact A2_X7_islanderTold hV okP okM ha
  | 3, _ => exact A3_X7_islanderTold hV okP okM ha
  | 4, _ => exact A4_X7_islanderTold hV okP okM ha
/-- a cap's worth, in the row's order -/
def cw (V : Nat → Int32) (k : Nat) : Int32 := V (19 + k) * V (7 + k % 4)
theorem rs_s (f : Nat → Int32) (k : Nat) : rs f (k + 1) = rs f k + f k := rfl
theorem pw_rs (V : Nat → Int32) (a : Nat) (x : Int32) : x + cw V (a * 4 + 0) + cw V (a * 4 + 1) + cw V (a * 4 + 2) + cw V (a * 4 + 3) = x + pw V a := by
  have e : ∀ c, c < 4 → cw V (a * 4 + c) = V (19 + (a * 4 + c)) * V (7 + c) := fun c hc => by
    unfold cw
    rw [show (a * 4 + c) % 4 = c by omega]
  rw [e 0 (by decide), e 1 (by decide), e 2 (by decide), e 3 (by decide)]
  unfold pw
  rw [show (nI 0 : Int32) = 0 from rfl, Int32.zero_add]
  simp only [Int32.add_assoc]
theorem cw_aw (V : Nat → Int32) : ∀ a, rs (cw V) (a * 4 + 4) = rs (cw V) (a * 4) + pw V a := fun a => pw_rs V a (rs (cw V) (a * 4))
theorem rs_aw (V : Nat → Int32) : rs (cw V) 32 = aw8 V := by
  have e0 : rs (cw V) 4 = rs (cw V) 0 + pw V 0 := cw_aw V 0
  have e1 : rs (cw V) 8 = rs (cw V) 4 + pw V 1 := cw_aw V 1
  have e2 : rs (cw V) 12 = rs (cw V) 8 + pw V 2 := cw_aw V 2
  have e3 : rs (cw V) 16 = rs (cw V) 12 + pw V 3 := cw_aw V 3
  have e4 : rs (cw V) 20 = rs (cw V) 16 + pw V 4 := cw_aw V 4
  have e5 : rs (cw V) 24 = rs (cw V) 20 + pw V 5 := cw_aw V 5
  have e6 : rs (cw V) 28 = rs (cw V) 24 + pw V 6 := cw_aw V 6
  have e7 : rs (cw V) 32 = rs (cw V) 28 + pw V 7 := cw_aw V 7
  rw [e7, e6, e5, e4, e3, e2, e1, e0]
  rfl
set_option maxRecDepth 100000 in
set_option maxHeartbeats 4000000 in
theorem A0_X7_allCaps {d : Nat → Nat → Int32} {r : Nat → Nat → Option Nat} {J : Nat → Nat → Int64} {V : Nat → Int32} (hV : mV d = V) : OP kX7_allCaps yX7_allCaps 0 [.ref 65, .int (nI 0)] d r J (some (.int (rs (fun x => V (19 + x)) 32))) d r J := by
  refine op_of pl_X7_allCaps (Nat.le_of_ble_eq_true rfl) ?_
  have L : ∀ k, k ≤ 32 → SW yX7_allCaps cX7_allCaps 4 (some .int) [] 0 none 4 [some (.ref 65), some (.int (nI 0)), some (.int (rs (fun x => V (19 + x)) k)), some (.int (nI k))] [] 75 (W0 d r J) 0 0 (.inl (some (.int (rs (fun x => V (19 + x)) 32)))) 75 (W0 d r J) := by
    refine am_loop 32 ?_ ?_
    ·
      refine sw_iload_n (i := 3) dX7_allCaps_4 rfl rfl ?_
      refine sw_bi 32 dX7_allCaps_5 (by decide +kernel) ?_
      refine sw_ic_ge (tgt := 48) dX7_allCaps_7 rfl (fun _ => ?_) (fun h9 => absurd (nI_le (Nat.le_refl _) (by decide)) h9)
      refine sw_iload_n (i := 2) dX7_allCaps_48 rfl rfl ?_
      exact sw_ireturn rfl dX7_allCaps_49
    · intro k hk ih
      refine sw_iload_n (i := 3) dX7_allCaps_4 rfl rfl ?_
      refine sw_bi 32 dX7_allCaps_5 (by decide +kernel) ?_
      refine sw_ic_ge (tgt := 48) dX7_allCaps_7 rfl (fun h9 => absurd h9 (nI_ge hk (by decide))) (fun _ => ?_)
      refine sw_iload_n (i := 2) dX7_allCaps_10 rfl rfl ?_
      refine sw_aload_n (i := 0) dX7_allCaps_11 rfl rfl ?_
      refine sx_getR (q := 66) f_X7_7 (by decide) kr_65_0 dX7_allCaps_12 ?_
      refine sw_bi 19 dX7_allCaps_15 (by decide +kernel) ?_
      refine sw_ins (pc2 := 17) rfl rfl ?_
      refine sw_iload_n (i := 3) dX7_allCaps_17 rfl rfl ?_
      refine sw_iadd dX7_allCaps_18 ?_
      refine sx_ialdE (19 + k) (V (19 + k)) ((mV_in d (by omega) rfl).trans (congrFun hV _)) rfl (by simp only [nI_add, pk_mul]) (by omega) dX7_allCaps_19 ?_
      refine sw_iload_n (i := 1) dX7_allCaps_20 rfl rfl ?_
      refine sw_if_eq (tgt := 38) dX7_allCaps_21 rfl (fun _ => ?_) (fun h9 => absurd (by decide) h9)
      refine sw_ic 1 dX7_allCaps_38 ?_
      refine sw_imul dX7_allCaps_39 ?_
      refine sw_iadd dX7_allCaps_40 ?_
      refine sw_topE (v := rs (fun x => V (19 + x)) (k + 1)) (by rw [rs_s, show (nI 1 : Int32) = 1 from rfl, Int32.mul_one]) ?_
      refine sw_ins (pc2 := 41) rfl rfl ?_
      refine sw_istore_n (i := 2) dX7_allCaps_41 rfl (Nat.le_of_ble_eq_true rfl) rfl ?_
      refine sw_lo (lo2 := [some (.ref 65), some (.int _), some (.int _), some (.int _)]) rfl ?_
      refine sw_iinc (i := 3) (v := nI (k + 1)) dX7_allCaps_42 rfl (nI_1 _) (Nat.le_of_ble_eq_true rfl) rfl ?_
      refine sw_lo (lo2 := [some (.ref 65), some (.int _), some (.int _), some (.int _)]) rfl ?_
      refine sw_goto (tgt := 4) dX7_allCaps_45 rfl ?_
      exact ih
  refine sw_ic 0 dX7_allCaps_0 ?_
  refine sw_istore_n (i := 2) dX7_allCaps_1 rfl (Nat.le_of_ble_eq_true rfl) rfl ?_
  refine sw_lo (lo2 := [some (.ref 65), some (.int _), some (.int _), none]) rfl ?_
  refine sw_ic 0 dX7_allCaps_2 ?_
  refine sw_istore_n (i := 3) dX7_allCaps_3 rfl (Nat.le_of_ble_eq_true rfl) rfl ?_
  refine sw_lo (lo2 := [some (.ref 65), some (.int _), some (.int _), some (.int _)]) rfl ?_
  exact L 0 (Nat.zero_le _)
set_option maxRecDepth 100000 in
set_option maxHeartbeats 4000000 in
theorem A1_X7_allCaps {d : Nat → Nat → Int32} {r : Nat → Nat → Option Nat} {J : Nat → Nat → Int64} {V : Nat → Int32} (hV : mV d = V) : OP kX7_allCaps yX7_allCaps 0 [.ref 65, .int (nI 1)] d r J (some (.int (aw8 V))) d r J := by
  refine op_of pl_X7_allCaps (Nat.le_of_ble_eq_true rfl) ?_
  rw [← rs_aw]
  have L : ∀ k, k ≤ 32 → SW yX7_allCaps cX7_allCaps 4 (some .int) [] 0 none 4 [some (.ref 65), some (.int (nI 1)), some (.int (rs (cw V) k)), some (.int (nI k))] [] 75 (W0 d r J) 0 0 (.inl (some (.int (rs (cw V) 32)))) 75 (W0 d r J) := by
    refine am_loop 32 ?_ ?_
    ·
      refine sw_iload_n (i := 3) dX7_allCaps_4 rfl rfl ?_
      refine sw_bi 32 dX7_allCaps_5 (by decide +kernel) ?_
      refine sw_ic_ge (tgt := 48) dX7_allCaps_7 rfl (fun _ => ?_) (fun h9 => absurd (nI_le (Nat.le_refl _) (by decide)) h9)
      refine sw_iload_n (i := 2) dX7_allCaps_48 rfl rfl ?_
      exact sw_ireturn rfl dX7_allCaps_49
    · intro k hk ih
      refine sw_iload_n (i := 3) dX7_allCaps_4 rfl rfl ?_
      refine sw_bi 32 dX7_allCaps_5 (by decide +kernel) ?_
      refine sw_ic_ge (tgt := 48) dX7_allCaps_7 rfl (fun h9 => absurd h9 (nI_ge hk (by decide))) (fun _ => ?_)
      refine sw_iload_n (i := 2) dX7_allCaps_10 rfl rfl ?_
      refine sw_aload_n (i := 0) dX7_allCaps_11 rfl rfl ?_
      refine sx_getR (q := 66) f_X7_7 (by decide) kr_65_0 dX7_allCaps_12 ?_
      refine sw_bi 19 dX7_allCaps_15 (by decide +kernel) ?_
      refine sw_ins (pc2 := 17) rfl rfl ?_
      refine sw_iload_n (i := 3) dX7_allCaps_17 rfl rfl ?_
      refine sw_iadd dX7_allCaps_18 ?_
      refine sx_ialdE (19 + k) (V (19 + k)) ((mV_in d (by omega) rfl).trans (congrFun hV _)) rfl (by simp only [nI_add, pk_mul]) (by omega) dX7_allCaps_19 ?_
      refine sw_iload_n (i := 1) dX7_allCaps_20 rfl rfl ?_
      refine sw_if_eq (tgt := 38) dX7_allCaps_21 rfl (fun h9 => absurd h9 (by decide)) (fun _ => ?_)
      refine sw_aload_n (i := 0) dX7_allCaps_24 rfl rfl ?_
      refine sx_getR (q := 66) f_X7_7 (by decide) kr_65_0 dX7_allCaps_25 ?_
      refine sw_bi 7 dX7_allCaps_28 (by decide +kernel) ?_
      refine sw_ins (pc2 := 30) rfl rfl ?_
      refine sw_iload_n (i := 3) dX7_allCaps_30 rfl rfl ?_
      refine sw_ic 4 dX7_allCaps_31 ?_
      refine sw_irem (by decide) dX7_allCaps_32 ?_
      refine sw_topE (v := nI (k % 4)) (pk_rem (by omega) (by omega) (by omega)) ?_
      refine sw_iadd dX7_allCaps_33 ?_
      refine sx_ialdE (7 + (k % 4)) (V (7 + k % 4)) ((mV_in d (by omega) rfl).trans (congrFun hV _)) rfl (by simp only [nI_add, pk_mul]) (by omega) dX7_allCaps_34 ?_
      refine sw_goto (tgt := 39) dX7_allCaps_35 rfl ?_
      refine sw_imul dX7_allCaps_39 ?_
      refine sw_iadd dX7_allCaps_40 ?_
      refine sw_topE (v := rs (cw V) (k + 1)) rfl ?_
      refine sw_ins (pc2 := 41) rfl rfl ?_
      refine sw_istore_n (i := 2) dX7_allCaps_41 rfl (Nat.le_of_ble_eq_true rfl) rfl ?_
      refine sw_lo (lo2 := [some (.ref 65), some (.int _), some (.int _), some (.int _)]) rfl ?_
      refine sw_iinc (i := 3) (v := nI (k + 1)) dX7_allCaps_42 rfl (nI_1 _) (Nat.le_of_ble_eq_true rfl) rfl ?_
      refine sw_lo (lo2 := [some (.ref 65), some (.int _), some (.int _), some (.int _)]) rfl ?_
      refine sw_goto (tgt := 4) dX7_allCaps_45 rfl ?_
      exact ih
  refine sw_ic 0 dX7_allCaps_0 ?_
  refine sw_istore_n (i := 2) dX7_allCaps_1 rfl (Nat.le_of_ble_eq_true rfl) rfl ?_
  refine sw_lo (lo2 := [some (.ref 65), some (.int _), some (.int _), none]) rfl ?_
  refine sw_ic 0 dX7_allCaps_2 ?_
  refine sw_istore_n (i := 3) dX7_allCaps_3 rfl (Nat.le_of_ble_eq_true rfl) rfl ?_
  refine sw_lo (lo2 := [some (.ref 65), some (.int _), some (.int _), some (.int _)]) rfl ?_
  exact L 0 (Nat.zero_le _)
set_option maxRecDepth 100000 in
set_option maxHeartbeats 4000000 in
theorem A0_X7_countTold {d : Nat → Nat → Int32} {r : Nat → Nat → Option Nat} {J : Nat → Nat → Int64} {V : Nat → Int32} (hV : mV d = V) {n : Nat} (hn : d 65 2 = nI n) : OP kX7_countTold yX7_countTold 1 [.ref 65, .int (nI 0)] d r J (some (.int (cnt V n 0))) d r J := by
  refine op_of pl_X7_countTold (Nat.le_of_ble_eq_true rfl) ?_
  refine sw_iload_n (i := 1) dX7_countTold_0 rfl rfl ?_
  refine sw_tabIn (off := 55) (tgt := 56) dX7_countTold_1 (by decide) (by decide) (by decide) (by decide) ?_
  refine sw_aload_n (i := 0) dX7_countTold_56 rfl rfl ?_
  refine sx_getR (q := 66) f_X7_7 (by decide) kr_65_0 dX7_countTold_57 ?_
  refine sw_ic 0 dX7_countTold_60 ?_
  refine sx_ialdE (0) (V 0) ((mV_in d (by decide) rfl).trans (congrFun hV _)) rfl rfl (by omega) dX7_countTold_61 ?_
  exact sw_ireturn rfl dX7_countTold_62
set_option maxRecDepth 100000 in
set_option maxHeartbeats 4000000 in
theorem A1_X7_countTold {d : Nat → Nat → Int32} {r : Nat → Nat → Option Nat} {J : Nat → Nat → Int64} {V : Nat → Int32} (hV : mV d = V) {n : Nat} (hn : d 65 2 = nI n) : OP kX7_countTold yX7_countTold 1 [.ref 65, .int (nI 1)] d r J (some (.int (cnt V n 1))) d r J := by
  refine op_of pl_X7_countTold (Nat.le_of_ble_eq_true rfl) ?_
  refine sw_iload_n (i := 1) dX7_countTold_0 rfl rfl ?_
  refine sw_tabIn (off := 62) (tgt := 63) dX7_countTold_1 (by decide) (by decide) (by decide) (by decide) ?_
  refine sw_aload_n (i := 0) dX7_countTold_63 rfl rfl ?_
  refine sw_iload_n (i := 1) dX7_countTold_64 rfl rfl ?_
  refine sw_ic 2 dX7_countTold_65 ?_
  refine sw_ic_ne (tgt := 73) dX7_countTold_66 rfl (fun _ => ?_) (fun h9 => absurd h9 (by decide))
  refine sw_ic 0 dX7_countTold_73 ?_
  refine sw_ins (pc2 := 74) rfl rfl ?_
  refine px_Vx mv_X7_176 (A0_X7_allCaps hV) rfl rfl (Nat.le_of_ble_eq_true rfl) (Nat.le_of_ble_eq_true rfl) ko_65 (Nat.le_of_ble_eq_true rfl) dX7_countTold_74 ?_
  exact sw_ireturn rfl dX7_countTold_77
set_option maxRecDepth 100000 in
set_option maxHeartbeats 4000000 in
theorem A2_X7_countTold {d : Nat → Nat → Int32} {r : Nat → Nat → Option Nat} {J : Nat → Nat → Int64} {V : Nat → Int32} (hV : mV d = V) {n : Nat} (hn : d 65 2 = nI n) : OP kX7_countTold yX7_countTold 1 [.ref 65, .int (nI 2)] d r J (some (.int (cnt V n 2))) d r J := by
  refine op_of pl_X7_countTold (Nat.le_of_ble_eq_true rfl) ?_
  refine sw_iload_n (i := 1) dX7_countTold_0 rfl rfl ?_
  refine sw_tabIn (off := 62) (tgt := 63) dX7_countTold_1 (by decide) (by decide) (by decide) (by decide) ?_
  refine sw_aload_n (i := 0) dX7_countTold_63 rfl rfl ?_
  refine sw_iload_n (i := 1) dX7_countTold_64 rfl rfl ?_
  refine sw_ic 2 dX7_countTold_65 ?_
  refine sw_ic_ne (tgt := 73) dX7_countTold_66 rfl (fun h9 => absurd (by decide) h9) (fun _ => ?_)
  refine sw_ic 1 dX7_countTold_69 ?_
  refine sw_ins (pc2 := 70) rfl rfl ?_
  refine sw_goto (tgt := 74) dX7_countTold_70 rfl ?_
  refine px_Vx mv_X7_176 (A1_X7_allCaps hV) rfl rfl (Nat.le_of_ble_eq_true rfl) (Nat.le_of_ble_eq_true rfl) ko_65 (Nat.le_of_ble_eq_true rfl) dX7_countTold_74 ?_
  exact sw_ireturn rfl dX7_countTold_77
set_option maxRecDepth 100000 in
set_option maxHeartbeats 4000000 in
theorem A3_X7_countTold {d : Nat → Nat → Int32} {r : Nat → Nat → Option Nat} {J : Nat → Nat → Int64} {V : Nat → Int32} (hV : mV d = V) {n : Nat} (hn : d 65 2 = nI n) : OP kX7_countTold yX7_countTold 1 [.ref 65, .int (nI 3)] d r J (some (.int (cnt V n 3))) d r J := by
  refine op_of pl_X7_countTold (Nat.le_of_ble_eq_true rfl) ?_
  refine sw_iload_n (i := 1) dX7_countTold_0 rfl rfl ?_
  refine sw_tabIn (off := 77) (tgt := 78) dX7_countTold_1 (by decide) (by decide) (by decide) (by decide) ?_
  refine sw_aload_n (i := 0) dX7_countTold_78 rfl rfl ?_
  refine sx_getR (q := 66) f_X7_7 (by decide) kr_65_0 dX7_countTold_79 ?_
  refine sw_ic 1 dX7_countTold_82 ?_
  refine sx_ialdE (1) (V 1) ((mV_in d (by decide) rfl).trans (congrFun hV _)) rfl rfl (by omega) dX7_countTold_83 ?_
  exact sw_ireturn rfl dX7_countTold_84
set_option maxRecDepth 100000 in
set_option maxHeartbeats 4000000 in
theorem A4_X7_countTold {d : Nat → Nat → Int32} {r : Nat → Nat → Option Nat} {J : Nat → Nat → Int64} {V : Nat → Int32} (hV : mV d = V) {n : Nat} (hn : d 65 2 = nI n) : OP kX7_countTold yX7_countTold 1 [.ref 65, .int (nI 4)] d r J (some (.int (cnt V n 4))) d r J := by
  refine op_of pl_X7_countTold (Nat.le_of_ble_eq_true rfl) ?_
  refine sw_iload_n (i := 1) dX7_countTold_0 rfl rfl ?_
  refine sw_tabIn (off := 89) (tgt := 90) dX7_countTold_1 (by decide) (by decide) (by decide) (by decide) ?_
  refine sw_aload_n (i := 0) dX7_countTold_90 rfl rfl ?_
  refine sx_getR (q := 66) f_X7_7 (by decide) kr_65_0 dX7_countTold_91 ?_
  refine sw_ic 2 dX7_countTold_94 ?_
  refine sw_iload_n (i := 1) dX7_countTold_95 rfl rfl ?_
  refine sw_iadd dX7_countTold_96 ?_
  refine sw_topE (v := nI 6) (by decide) ?_
  refine sw_ins (pc2 := 97) rfl rfl ?_
  refine sw_ic 4 dX7_countTold_97 ?_
  refine sw_isub dX7_countTold_98 ?_
  refine sw_topE (v := nI 2) (by decide) ?_
  refine sx_ialdE (2) (V 2) ((mV_in d (by decide) rfl).trans (congrFun hV _)) rfl rfl (by omega) dX7_countTold_99 ?_
  exact sw_ireturn rfl dX7_countTold_100
set_option maxRecDepth 100000 in
set_option maxHeartbeats 4000000 in
theorem A5_X7_countTold {d : Nat → Nat → Int32} {r : Nat → Nat → Option Nat} {J : Nat → Nat → Int64} {V : Nat → Int32} (hV : mV d = V) {n : Nat} (hn : d 65 2 = nI n) : OP kX7_countTold yX7_countTold 1 [.ref 65, .int (nI 5)] d r J (some (.int (cnt V n 5))) d r J := by
  refine op_of pl_X7_countTold (Nat.le_of_ble_eq_true rfl) ?_
  refine sw_iload_n (i := 1) dX7_countTold_0 rfl rfl ?_
  refine sw_tabIn (off := 89) (tgt := 90) dX7_countTold_1 (by decide) (by decide) (by decide) (by decide) ?_
  refine sw_aload_n (i := 0) dX7_countTold_90 rfl rfl ?_
  refine sx_getR (q := 66) f_X7_7 (by decide) kr_65_0 dX7_countTold_91 ?_
  refine sw_ic 2 dX7_countTold_94 ?_
  refine sw_iload_n (i := 1) dX7_countTold_95 rfl rfl ?_
  refine sw_iadd dX7_countTold_96 ?_
  refine sw_topE (v := nI 7) (by decide) ?_
  refine sw_ins (pc2 := 97) rfl rfl ?_
  refine sw_ic 4 dX7_countTold_97 ?_
  refine sw_isub dX7_countTold_98 ?_
  refine sw_topE (v := nI 3) (by decide) ?_
  refine sx_ialdE (3) (V 3) ((mV_in d (by decide) rfl).trans (congrFun hV _)) rfl rfl (by omega) dX7_countTold_99 ?_
  exact sw_ireturn rfl dX7_countTold_100
set_option maxRecDepth 100000 in
set_option maxHeartbeats 4000000 in
theorem A6_X7_countTold {d : Nat → Nat → Int32} {r : Nat → Nat → Option Nat} {J : Nat → Nat → Int64} {V : Nat → Int32} (hV : mV d = V) {n : Nat} (hn : d 65 2 = nI n) : OP kX7_countTold yX7_countTold 1 [.ref 65, .int (nI 6)] d r J (some (.int (cnt V n 6))) d r J := by
  refine op_of pl_X7_countTold (Nat.le_of_ble_eq_true rfl) ?_
  refine sw_iload_n (i := 1) dX7_countTold_0 rfl rfl ?_
  refine sw_tabIn (off := 89) (tgt := 90) dX7_countTold_1 (by decide) (by decide) (by decide) (by decide) ?_
  refine sw_aload_n (i := 0) dX7_countTold_90 rfl rfl ?_
  refine sx_getR (q := 66) f_X7_7 (by decide) kr_65_0 dX7_countTold_91 ?_
  refine sw_ic 2 dX7_countTold_94 ?_
  refine sw_iload_n (i := 1) dX7_countTold_95 rfl rfl ?_
  refine sw_iadd dX7_countTold_96 ?_
  refine sw_topE (v := nI 8) (by decide) ?_
  refine sw_ins (pc2 := 97) rfl rfl ?_
  refine sw_ic 4 dX7_countTold_97 ?_
  refine sw_isub dX7_countTold_98 ?_
  refine sw_topE (v := nI 4) (by decide) ?_
  refine sx_ialdE (4) (V 4) ((mV_in d (by decide) rfl).trans (congrFun hV _)) rfl rfl (by omega) dX7_countTold_99 ?_
  exact sw_ireturn rfl dX7_countTold_100
set_option maxRecDepth 100000 in
set_option maxHeartbeats 4000000 in
theorem A7_X7_countTold {d : Nat → Nat → Int32} {r : Nat → Nat → Option Nat} {J : Nat → Nat → Int64} {V : Nat → Int32} (hV : mV d = V) {n : Nat} (hn : d 65 2 = nI n) : OP kX7_countTold yX7_countTold 1 [.ref 65, .int (nI 7)] d r J (some (.int (cnt V n 7))) d r J := by
  refine op_of pl_X7_countTold (Nat.le_of_ble_eq_true rfl) ?_
  refine sw_iload_n (i := 1) dX7_countTold_0 rfl rfl ?_
  refine sw_tabIn (off := 89) (tgt := 90) dX7_countTold_1 (by decide) (by decide) (by decide) (by decide) ?_
  refine sw_aload_n (i := 0) dX7_countTold_90 rfl rfl ?_
  refine sx_getR (q := 66) f_X7_7 (by decide) kr_65_0 dX7_countTold_91 ?_
  refine sw_ic 2 dX7_countTold_94 ?_
  refine sw_iload_n (i := 1) dX7_countTold_95 rfl rfl ?_
  refine sw_iadd dX7_countTold_96 ?_
  refine sw_topE (v := nI 9) (by decide) ?_
  refine sw_ins (pc2 := 97) rfl rfl ?_
  refine sw_ic 4 dX7_countTold_97 ?_
  refine sw_isub dX7_countTold_98 ?_
  refine sw_topE (v := nI 5) (by decide) ?_
  refine sx_ialdE (5) (V 5) ((mV_in d (by decide) rfl).trans (congrFun hV _)) rfl rfl (by omega) dX7_countTold_99 ?_
  exact sw_ireturn rfl dX7_countTold_100
set_option maxRecDepth 100000 in
set_option maxHeartbeats 4000000 in
theorem A8_X7_countTold {d : Nat → Nat → Int32} {r : Nat → Nat → Option Nat} {J : Nat → Nat → Int64} {V : Nat → Int32} (hV : mV d = V) {n : Nat} (hn : d 65 2 = nI n) : OP kX7_countTold yX7_countTold 1 [.ref 65, .int (nI 8)] d r J (some (.int (cnt V n 8))) d r J := by
  refine op_of pl_X7_countTold (Nat.le_of_ble_eq_true rfl) ?_
  refine sw_iload_n (i := 1) dX7_countTold_0 rfl rfl ?_
  refine sw_tabIn (off := 89) (tgt := 90) dX7_countTold_1 (by decide) (by decide) (by decide) (by decide) ?_
  refine sw_aload_n (i := 0) dX7_countTold_90 rfl rfl ?_
  refine sx_getR (q := 66) f_X7_7 (by decide) kr_65_0 dX7_countTold_91 ?_
  refine sw_ic 2 dX7_countTold_94 ?_
  refine sw_iload_n (i := 1) dX7_countTold_95 rfl rfl ?_
  refine sw_iadd dX7_countTold_96 ?_
  refine sw_topE (v := nI 10) (by decide) ?_
  refine sw_ins (pc2 := 97) rfl rfl ?_
  refine sw_ic 4 dX7_countTold_97 ?_
  refine sw_isub dX7_countTold_98 ?_
  refine sw_topE (v := nI 6) (by decide) ?_
  refine sx_ialdE (6) (V 6) ((mV_in d (by decide) rfl).trans (congrFun hV _)) rfl rfl (by omega) dX7_countTold_99 ?_
  exact sw_ireturn rfl dX7_countTold_100
set_option maxRecDepth 100000 in
set_option maxHeartbeats 4000000 in
theorem A9_X7_countTold {d : Nat → Nat → Int32} {r : Nat → Nat → Option Nat} {J : Nat → Nat → Int64} {V : Nat → Int32} (hV : mV d = V) {n : Nat} (hn : d 65 2 = nI n) : OP kX7_countTold yX7_countTold 1 [.ref 65, .int (nI 9)] d r J (some (.int (cnt V n 9))) d r J := by
  refine op_of pl_X7_countTold (Nat.le_of_ble_eq_true rfl) ?_
  refine sw_iload_n (i := 1) dX7_countTold_0 rfl rfl ?_
  refine sw_tabIn (off := 84) (tgt := 85) dX7_countTold_1 (by decide) (by decide) (by decide) (by decide) ?_
  refine sw_aload_n (i := 0) dX7_countTold_85 rfl rfl ?_
  refine sx_getIE (nI n) hn f_X7_43 (by decide) kf_65_2 dX7_countTold_86 ?_
  exact sw_ireturn rfl dX7_countTold_89
theorem A_X7_countTold {d : Nat → Nat → Int32} {r : Nat → Nat → Option Nat} {J : Nat → Nat → Int64} {V : Nat → Int32} (hV : mV d = V) {n : Nat} (hn : d 65 2 = nI n) {k : Nat} (hk : k < 10) : OP kX7_countTold yX7_countTold 1 [.ref 65, .int (nI k)] d r J (some (.int (cnt V n k))) d r J := by
  match k, hk with
  | 0, _ => exact A0_X7_countTold hV hn
  | 1, _ => exact A1_X7_countTold hV hn
  | 2, _ => exact A2_X7_countTold hV hn
  | 3, _ => exact A3_X7_countTold hV hn
  | 4, _ => exact A4_X7_countTold hV hn
  | 5, _ => exact A5_X7_countTold hV hn
  | 6, _ => exact A6_X7_countTold hV hn
  | 7, _ => exact A7_X7_countTold hV hn
  | 8, _ => exact A8_X7_countTold hV hn
  | 9, _ => exact A9_X7_countTold hV hn
set_option maxRecDepth 100000 in
set_option maxHeartbeats 4000000 in
theorem A_X7_richestTold {d : Nat → Nat → Int32} {r : Nat → Nat → Option Nat} {J : Nat → Nat → Int64} {V : Nat → Int32} (hV : mV d = V) : OP kX7_richestTold yX7_richestTold 2 [.ref 65] d r J (some (.int (nI (rch V)))) d r J := by
  refine op_of pl_X7_richestTold (Nat.le_of_ble_eq_true rfl) ?_
  have L : ∀ i, i ≤ 7 → SW yX7_richestTold cX7_richestTold 3 (some .int) [] 2 none 4 [some (.ref 65), some (.int (nI (rcG V (i + 1)))), some (.int (nI (i + 1)))] [] 75 (W0 d r J) 0 0 (.inl (some (.int (nI (rch V))))) 75 (W0 d r J) := by
    refine am_loop 7 ?_ ?_
    ·
      refine sw_iload_n (i := 2) dX7_richestTold_4 rfl rfl ?_
      refine sw_bi 8 dX7_richestTold_5 (by decide +kernel) ?_
      refine sw_ic_ge (tgt := 35) dX7_richestTold_7 rfl (fun _ => ?_) (fun h9 => absurd (nI_le (by decide) (by decide)) h9)
      refine sw_iload_n (i := 1) dX7_richestTold_35 rfl rfl ?_
      exact sw_ireturn rfl dX7_richestTold_36
    · intro i hi ih
      have hl := rcG_lt V (i + 1) (by omega)
      have g0 := A_X7_worthOf (d := d) (r := r) (J := J) (a := i + 1) (by omega)
      have g1 := A_X7_worthOf (d := d) (r := r) (J := J) (a := rcG V (i + 1)) hl
      rw [hV] at g0 g1
      by_cases c : pw V (rcG V (i + 1)) < pw V (i + 1)
      · rw [show rcG V (i + 1 + 1) = i + 1 from if_pos c] at ih
        refine sw_iload_n (i := 2) dX7_richestTold_4 rfl rfl ?_
        refine sw_bi 8 dX7_richestTold_5 (by decide +kernel) ?_
        refine sw_ic_ge (tgt := 35) dX7_richestTold_7 rfl (fun h9 => absurd h9 (nI_ge (by omega) (by decide))) (fun _ => ?_)
        refine sw_aload_n (i := 0) dX7_richestTold_10 rfl rfl ?_
        refine sw_iload_n (i := 2) dX7_richestTold_11 rfl rfl ?_
        refine px_Vx mv_X7_167 g0 rfl rfl (Nat.le_of_ble_eq_true rfl) (Nat.le_of_ble_eq_true rfl) ko_65 (Nat.le_of_ble_eq_true rfl) dX7_richestTold_12 ?_
        refine sw_aload_n (i := 0) dX7_richestTold_15 rfl rfl ?_
        refine sw_ins (pc2 := 16) rfl rfl ?_
        refine sw_iload_n (i := 1) dX7_richestTold_16 rfl rfl ?_
        refine px_Vx mv_X7_167 g1 rfl rfl (Nat.le_of_ble_eq_true rfl) (Nat.le_of_ble_eq_true rfl) ko_65 (Nat.le_of_ble_eq_true rfl) dX7_richestTold_17 ?_
        refine sw_ic_le (tgt := 27) dX7_richestTold_20 rfl (fun h9 => absurd h9 (Int32.not_le.mpr c)) (fun _ => ?_)
        refine sw_iload_n (i := 2) dX7_richestTold_23 rfl rfl ?_
        refine sw_goto (tgt := 28) dX7_richestTold_24 rfl ?_
        refine sw_istore_n (i := 1) dX7_richestTold_28 rfl (Nat.le_of_ble_eq_true rfl) rfl ?_
        refine sw_lo (lo2 := [some (.ref 65), some (.int _), some (.int _)]) rfl ?_
        refine sw_iinc (i := 2) (v := nI (i + 1 + 1)) dX7_richestTold_29 rfl (nI_1 _) (Nat.le_of_ble_eq_true rfl) rfl ?_
        refine sw_lo (lo2 := [some (.ref 65), some (.int _), some (.int _)]) rfl ?_
        refine sw_goto (tgt := 4) dX7_richestTold_32 rfl ?_
        exact ih
      · rw [show rcG V (i + 1 + 1) = rcG V (i + 1) from if_neg c] at ih
        refine sw_iload_n (i := 2) dX7_richestTold_4 rfl rfl ?_
        refine sw_bi 8 dX7_richestTold_5 (by decide +kernel) ?_
        refine sw_ic_ge (tgt := 35) dX7_richestTold_7 rfl (fun h9 => absurd h9 (nI_ge (by omega) (by decide))) (fun _ => ?_)
        refine sw_aload_n (i := 0) dX7_richestTold_10 rfl rfl ?_
        refine sw_iload_n (i := 2) dX7_richestTold_11 rfl rfl ?_
        refine px_Vx mv_X7_167 g0 rfl rfl (Nat.le_of_ble_eq_true rfl) (Nat.le_of_ble_eq_true rfl) ko_65 (Nat.le_of_ble_eq_true rfl) dX7_richestTold_12 ?_
        refine sw_aload_n (i := 0) dX7_richestTold_15 rfl rfl ?_
        refine sw_ins (pc2 := 16) rfl rfl ?_
        refine sw_iload_n (i := 1) dX7_richestTold_16 rfl rfl ?_
        refine px_Vx mv_X7_167 g1 rfl rfl (Nat.le_of_ble_eq_true rfl) (Nat.le_of_ble_eq_true rfl) ko_65 (Nat.le_of_ble_eq_true rfl) dX7_richestTold_17 ?_
        refine sw_ic_le (tgt := 27) dX7_richestTold_20 rfl (fun _ => ?_) (fun h9 => absurd (Int32.not_lt.mp c) h9)
        refine sw_iload_n (i := 1) dX7_richestTold_27 rfl rfl ?_
        refine sw_istore_n (i := 1) dX7_richestTold_28 rfl (Nat.le_of_ble_eq_true rfl) rfl ?_
        refine sw_lo (lo2 := [some (.ref 65), some (.int _), some (.int _)]) rfl ?_
        refine sw_iinc (i := 2) (v := nI (i + 1 + 1)) dX7_richestTold_29 rfl (nI_1 _) (Nat.le_of_ble_eq_true rfl) rfl ?_
        refine sw_lo (lo2 := [some (.ref 65), some (.int _), some (.int _)]) rfl ?_
        refine sw_goto (tgt := 4) dX7_richestTold_32 rfl ?_
        exact ih
  refine sw_ic 0 dX7_richestTold_0 ?_
  refine sw_istore_n (i := 1) dX7_richestTold_1 rfl (Nat.le_of_ble_eq_true rfl) rfl ?_
  refine sw_lo (lo2 := [some (.ref 65), some (.int _), none]) rfl ?_
  refine sw_ic 1 dX7_richestTold_2 ?_
  refine sw_istore_n (i := 2) dX7_richestTold_3 rfl (Nat.le_of_ble_eq_true rfl) rfl ?_
  refine sw_lo (lo2 := [some (.ref 65), some (.int _), some (.int _)]) rfl ?_
  have L0 := L 0 (Nat.zero_le _)
  rw [show 0 + 1 = 1 from rfl, rcG_1] at L0
  exact L0
/-- whose purse comes after some storms, from one to the next -/
def snI (V : Nat → Int32) (a : Nat) : Nat → Nat
  | 0 => a
  | k + 1 => snd V (snI V a k)
theorem snI_lt {V : Nat → Int32} (h : okPath V) {a : Nat} (ha : a < 8) : ∀ k, snI V a k < 8
  | 0 => ha
  | k + 1 => (snd_spec h (snI_lt h ha k)).2
theorem snI_alg {V : Nat → Int32} (h : okPath V) {a : Nat} (ha : a < 8) : ∀ k, alg V (snI V a k) k = a
  | 0 => rfl
  | k + 1 => by
    have e : alg V (snd V (snI V a k)) (1 + k) = alg V (alg V (snd V (snI V a k)) 1) k := alg_add V _ 1 k
    have e1 : alg V (snd V (snI V a k)) 1 = snI V a k := (snd_spec h (snI_lt h ha k)).1
    show alg V (snd V (snI V a k)) (k + 1) = a
    rw [Nat.add_comm k 1, e, e1]
    exact snI_alg h ha k
theorem whG_is {V : Nat → Int32} (h : okPath V) {a k x : Nat} (hx : x < 8) (e : alg V x k = a) : ∀ i, x < i → i ≤ 8 → whG V a k i = x
  | 0, h1, _ => absurd h1 (by omega)
  | i + 1, h1, h2 => by
    show (if alg V i k = a then i else whG V a k i) = x
    by_cases c : alg V i k = a
    · rw [if_pos c]
      exact alg_inj h (by omega) hx k (c.trans e.symm)
    · rw [if_neg c]
      have hxi : x ≠ i := fun q => c (by rw [← q]; exact e)
      exact whG_is h hx e i (by omega) (by omega)
theorem whG_sn {V : Nat → Int32} (h : okPath V) {a : Nat} (ha : a < 8) (k : Nat) : whG V a k 8 = snI V a k := whG_is h (snI_lt h ha k) (snI_alg h ha k) 8 (snI_lt h ha k) (Nat.le_refl _)
theorem sub_ge {L D k : Nat} (hL : L < 2 ^ 20) (hD : D < 2 ^ 20) (hk : k < 2 ^ 20) : nI k ≤ nI L - nI D ↔ D + k ≤ L := by
  rw [Int32.le_iff_toInt_le, nI_toInt (by omega), pk_sub_toInt (by omega) (by omega)]
  omega
set_option maxRecDepth 100000 in
set_option maxHeartbeats 4000000 in
theorem B_X7_keepIn {r : Nat → Nat → Option Nat} {J : Nat → Nat → Int64} {V : Nat → Int32} {q : Nat} (ok : okV V) (hq : q < nv V 1) : ∀ (f : Nat) (d : Nat → Nat → Int32) (k : Nat), mV d = V → f = prt V q 3 + 1 - (nv V 0 + k) → k ≤ 20000 → ∃ d1, SW yX7_keepIn cX7_keepIn 3 (some .int) [] 4 none 2 [some (.ref 65), some (.int (nI q)), some (.int (nI k))] [] 75 (W0 d r J) 0 0 (.inl (some (.int (ckG V (prt V q 2) f (snI V (prt V q 0) k) k)))) 75 (W0 d1 r J) ∧ ∀ c, c ≠ 71 → d1 c = d c := by
  obtain ⟨okP, okM, okT9, okC, okW, okD⟩ := id ok
  obtain ⟨p1, p2, p3, p4, p5, p6, p7⟩ := okT9 q hq
  have hm8 := okM.2
  have hd := okD.1.2
  intro f
  induction f with
  | zero =>
    intro d k hV hf hk
    have of3 := A_X7_ofE (d := d) (r := r) (J := J) (q := q) (c := 3) (by rw [hV]; exact okT9) (by rw [hV]; exact okM) (by rw [hV]; exact hq) (by decide)
    rw [hV] at of3
    refine ⟨d, ?_, fun c hc => rfl⟩
    refine sw_iload_n (i := 2) dX7_keepIn_2 rfl rfl ?_
    refine sw_aload_n (i := 0) dX7_keepIn_3 rfl rfl ?_
    refine sw_iload_n (i := 1) dX7_keepIn_4 rfl rfl ?_
    refine sw_ic 3 dX7_keepIn_5 ?_
    refine px_Vx mv_X7_61 of3 rfl rfl (Nat.le_of_ble_eq_true rfl) (Nat.le_of_ble_eq_true rfl) ko_65 (Nat.le_of_ble_eq_true rfl) dX7_keepIn_6 ?_
    refine sw_aload_n (i := 0) dX7_keepIn_9 rfl rfl ?_
    refine sx_getR (q := 66) f_X7_7 (by decide) kr_65_0 dX7_keepIn_10 ?_
    refine sw_ins (pc2 := 13) rfl rfl ?_
    refine sw_ic 0 dX7_keepIn_13 ?_
    refine sx_ialdE (0) (nI (nv V 0)) ((mV_in d (by decide) rfl).trans ((congrFun hV 0).trans okD.1.1)) rfl rfl (by omega) dX7_keepIn_14 ?_
    refine sw_isub dX7_keepIn_15 ?_
    refine sw_ic_gt (tgt := 50) dX7_keepIn_16 rfl (fun _ => ?_) (fun h9 => absurd (Int32.not_le.mp (fun g => absurd ((sub_ge (by omega) (by omega) (by omega)).mp g) (by omega))) h9)
    refine sw_iload_n (i := 2) dX7_keepIn_50 rfl rfl ?_
    refine sw_aload_n (i := 0) dX7_keepIn_51 rfl rfl ?_
    refine sw_iload_n (i := 1) dX7_keepIn_52 rfl rfl ?_
    refine sw_ic 3 dX7_keepIn_53 ?_
    refine sw_ins (pc2 := 54) rfl rfl ?_
    refine px_Vx mv_X7_61 of3 rfl rfl (Nat.le_of_ble_eq_true rfl) (Nat.le_of_ble_eq_true rfl) ko_65 (Nat.le_of_ble_eq_true rfl) dX7_keepIn_54 ?_
    refine sw_aload_n (i := 0) dX7_keepIn_57 rfl rfl ?_
    refine sx_getR (q := 66) f_X7_7 (by decide) kr_65_0 dX7_keepIn_58 ?_
    refine sw_ic 0 dX7_keepIn_61 ?_
    refine sx_ialdE (0) (nI (nv V 0)) ((mV_in d (by decide) rfl).trans ((congrFun hV 0).trans okD.1.1)) rfl rfl (by omega) dX7_keepIn_62 ?_
    refine sw_isub dX7_keepIn_63 ?_
    refine sw_ic_gt (tgt := 71) dX7_keepIn_64 rfl (fun _ => ?_) (fun h9 => absurd (Int32.not_le.mp (fun g => absurd ((sub_ge (by omega) (by omega) (by omega)).mp g) (by omega))) h9)
    refine sw_im1 dX7_keepIn_71 ?_
    refine sw_ins (pc2 := 72) rfl rfl ?_
    exact sw_ireturn rfl dX7_keepIn_72
  | succ f ih =>
    intro d k hV hf hk
    have of0 := A_X7_ofE (d := d) (r := r) (J := J) (q := q) (c := 0) (by rw [hV]; exact okT9) (by rw [hV]; exact okM) (by rw [hV]; exact hq) (by decide)
    rw [hV] at of0
    have of2 := A_X7_ofE (d := d) (r := r) (J := J) (q := q) (c := 2) (by rw [hV]; exact okT9) (by rw [hV]; exact okM) (by rw [hV]; exact hq) (by decide)
    rw [hV] at of2
    have of3 := A_X7_ofE (d := d) (r := r) (J := J) (q := q) (c := 3) (by rw [hV]; exact okT9) (by rw [hV]; exact okM) (by rw [hV]; exact hq) (by decide)
    rw [hV] at of3
    have hl := snI_lt okP p2 k
    have g0 := A_X7_whoseComes (d := d) (r := r) (J := J) (a := prt V q 0) (k := k) (by rw [hV]; exact okP) p2 (by omega)
    rw [hV, whG_sn okP p2] at g0
    obtain ⟨e1, x1, x2⟩ := A_X7_payFrom (d := d) (r := r) (J := J) (a := snI V (prt V q 0) k) (s := prt V q 2) (by rw [hV]; exact okC) (by rw [hV]; exact okW) hl p6
    rw [hV] at x1 x2
    have hV1 : mV e1 = V := (mV_keep (x2.1 66 (by decide))).trans hV
    cases hw : wy V (snI V (prt V q 0) k) (prt V q 2) with
    | none =>
      rw [hw] at x1
      rw [ckG_none hw]
      obtain ⟨d1, y1, y2⟩ := ih e1 (k + 1) hV1 (by omega) (by omega)
      refine ⟨d1, ?_, fun c hc => (y2 c hc).trans (x2.1 c hc)⟩
      refine sw_iload_n (i := 2) dX7_keepIn_2 rfl rfl ?_
      refine sw_aload_n (i := 0) dX7_keepIn_3 rfl rfl ?_
      refine sw_iload_n (i := 1) dX7_keepIn_4 rfl rfl ?_
      refine sw_ic 3 dX7_keepIn_5 ?_
      refine px_Vx mv_X7_61 of3 rfl rfl (Nat.le_of_ble_eq_true rfl) (Nat.le_of_ble_eq_true rfl) ko_65 (Nat.le_of_ble_eq_true rfl) dX7_keepIn_6 ?_
      refine sw_aload_n (i := 0) dX7_keepIn_9 rfl rfl ?_
      refine sx_getR (q := 66) f_X7_7 (by decide) kr_65_0 dX7_keepIn_10 ?_
      refine sw_ins (pc2 := 13) rfl rfl ?_
      refine sw_ic 0 dX7_keepIn_13 ?_
      refine sx_ialdE (0) (nI (nv V 0)) ((mV_in d (by decide) rfl).trans ((congrFun hV 0).trans okD.1.1)) rfl rfl (by omega) dX7_keepIn_14 ?_
      refine sw_isub dX7_keepIn_15 ?_
      refine sw_ic_gt (tgt := 50) dX7_keepIn_16 rfl (fun h9 => absurd h9 (Int32.not_lt.mpr ((sub_ge (by omega) (by omega) (by omega)).mpr (by omega)))) (fun _ => ?_)
      refine sw_aload_n (i := 0) dX7_keepIn_19 rfl rfl ?_
      refine sw_aload_n (i := 0) dX7_keepIn_20 rfl rfl ?_
      refine sw_aload_n (i := 0) dX7_keepIn_21 rfl rfl ?_
      refine sw_iload_n (i := 1) dX7_keepIn_22 rfl rfl ?_
      refine sw_ins (pc2 := 23) rfl rfl ?_
      refine sw_ic 0 dX7_keepIn_23 ?_
      refine px_Vx mv_X7_61 of0 rfl rfl (Nat.le_of_ble_eq_true rfl) (Nat.le_of_ble_eq_true rfl) ko_65 (Nat.le_of_ble_eq_true rfl) dX7_keepIn_24 ?_
      refine sw_iload_n (i := 2) dX7_keepIn_27 rfl rfl ?_
      refine px_Vx mv_X7_189 g0 rfl rfl (Nat.le_of_ble_eq_true rfl) (Nat.le_of_ble_eq_true rfl) ko_65 (Nat.le_of_ble_eq_true rfl) dX7_keepIn_28 ?_
      refine sw_aload_n (i := 0) dX7_keepIn_31 rfl rfl ?_
      refine sw_iload_n (i := 1) dX7_keepIn_32 rfl rfl ?_
      refine sw_ic 2 dX7_keepIn_33 ?_
      refine px_Vx mv_X7_61 of2 rfl rfl (Nat.le_of_ble_eq_true rfl) (Nat.le_of_ble_eq_true rfl) ko_65 (Nat.le_of_ble_eq_true rfl) dX7_keepIn_34 ?_
      refine sw_ins (pc2 := 37) rfl rfl ?_
      refine px_Vx2 mv_X7_64 x1 rfl rfl (Nat.le_of_ble_eq_true rfl) (Nat.le_of_ble_eq_true rfl) ko_65 (Nat.le_of_ble_eq_true rfl) dX7_keepIn_37 ?_
      refine sw_im1 dX7_keepIn_40 ?_
      refine sw_ic_ne (tgt := 50) dX7_keepIn_41 rfl (fun h9 => absurd (by decide) h9) (fun _ => ?_)
      refine sw_iinc (i := 2) (v := nI (k + 1)) dX7_keepIn_44 rfl (nI_1 _) (Nat.le_of_ble_eq_true rfl) rfl ?_
      refine sw_lo (lo2 := [some (.ref 65), some (.int _), some (.int _)]) rfl ?_
      refine sw_goto (tgt := 2) dX7_keepIn_47 rfl ?_
      exact y1
    | some wq =>
      rw [hw] at x1
      rw [ckG_some hw]
      obtain ⟨z, f2, e, t2⟩ := wq
      have hsm := wy_small okC hl hw
      have of3b := A_X7_ofE (d := e1) (r := r) (J := J) (q := q) (c := 3) (by rw [hV1]; exact okT9) (by rw [hV1]; exact okM) (by rw [hV1]; exact hq) (by decide)
      rw [hV1] at of3b
      refine ⟨e1, ?_, fun c hc => x2.1 c hc⟩
      refine sw_iload_n (i := 2) dX7_keepIn_2 rfl rfl ?_
      refine sw_aload_n (i := 0) dX7_keepIn_3 rfl rfl ?_
      refine sw_iload_n (i := 1) dX7_keepIn_4 rfl rfl ?_
      refine sw_ic 3 dX7_keepIn_5 ?_
      refine px_Vx mv_X7_61 of3 rfl rfl (Nat.le_of_ble_eq_true rfl) (Nat.le_of_ble_eq_true rfl) ko_65 (Nat.le_of_ble_eq_true rfl) dX7_keepIn_6 ?_
      refine sw_aload_n (i := 0) dX7_keepIn_9 rfl rfl ?_
      refine sx_getR (q := 66) f_X7_7 (by decide) kr_65_0 dX7_keepIn_10 ?_
      refine sw_ins (pc2 := 13) rfl rfl ?_
      refine sw_ic 0 dX7_keepIn_13 ?_
      refine sx_ialdE (0) (nI (nv V 0)) ((mV_in d (by decide) rfl).trans ((congrFun hV 0).trans okD.1.1)) rfl rfl (by omega) dX7_keepIn_14 ?_
      refine sw_isub dX7_keepIn_15 ?_
      refine sw_ic_gt (tgt := 50) dX7_keepIn_16 rfl (fun h9 => absurd h9 (Int32.not_lt.mpr ((sub_ge (by omega) (by omega) (by omega)).mpr (by omega)))) (fun _ => ?_)
      refine sw_aload_n (i := 0) dX7_keepIn_19 rfl rfl ?_
      refine sw_aload_n (i := 0) dX7_keepIn_20 rfl rfl ?_
      refine sw_aload_n (i := 0) dX7_keepIn_21 rfl rfl ?_
      refine sw_iload_n (i := 1) dX7_keepIn_22 rfl rfl ?_
      refine sw_ins (pc2 := 23) rfl rfl ?_
      refine sw_ic 0 dX7_keepIn_23 ?_
      refine px_Vx mv_X7_61 of0 rfl rfl (Nat.le_of_ble_eq_true rfl) (Nat.le_of_ble_eq_true rfl) ko_65 (Nat.le_of_ble_eq_true rfl) dX7_keepIn_24 ?_
      refine sw_iload_n (i := 2) dX7_keepIn_27 rfl rfl ?_
      refine px_Vx mv_X7_189 g0 rfl rfl (Nat.le_of_ble_eq_true rfl) (Nat.le_of_ble_eq_true rfl) ko_65 (Nat.le_of_ble_eq_true rfl) dX7_keepIn_28 ?_
      refine sw_aload_n (i := 0) dX7_keepIn_31 rfl rfl ?_
      refine sw_iload_n (i := 1) dX7_keepIn_32 rfl rfl ?_
      refine sw_ic 2 dX7_keepIn_33 ?_
      refine px_Vx mv_X7_61 of2 rfl rfl (Nat.le_of_ble_eq_true rfl) (Nat.le_of_ble_eq_true rfl) ko_65 (Nat.le_of_ble_eq_true rfl) dX7_keepIn_34 ?_
      refine sw_ins (pc2 := 37) rfl rfl ?_
      refine px_Vx2 mv_X7_64 x1 rfl rfl (Nat.le_of_ble_eq_true rfl) (Nat.le_of_ble_eq_true rfl) ko_65 (Nat.le_of_ble_eq_true rfl) dX7_keepIn_37 ?_
      refine sw_im1 dX7_keepIn_40 ?_
      refine sw_ic_ne (tgt := 50) dX7_keepIn_41 rfl (fun _ => ?_) (fun h9 => absurd h9 (nI_ne_m1 (by omega)))
      refine sw_iload_n (i := 2) dX7_keepIn_50 rfl rfl ?_
      refine sw_aload_n (i := 0) dX7_keepIn_51 rfl rfl ?_
      refine sw_iload_n (i := 1) dX7_keepIn_52 rfl rfl ?_
      refine sw_ic 3 dX7_keepIn_53 ?_
      refine px_Vx mv_X7_61 of3b rfl rfl (Nat.le_of_ble_eq_true rfl) (Nat.le_of_ble_eq_true rfl) ko_65 (Nat.le_of_ble_eq_true rfl) dX7_keepIn_54 ?_
      refine sw_ins (pc2 := 57) rfl rfl ?_
      refine sw_aload_n (i := 0) dX7_keepIn_57 rfl rfl ?_
      refine sx_getR (q := 66) f_X7_7 (by decide) kr_65_0 dX7_keepIn_58 ?_
      refine sw_ic 0 dX7_keepIn_61 ?_
      refine sx_ialdE (0) (nI (nv V 0)) ((mV_in e1 (by decide) rfl).trans ((congrFun hV1 0).trans okD.1.1)) rfl rfl (by omega) dX7_keepIn_62 ?_
      refine sw_isub dX7_keepIn_63 ?_
      refine sw_ic_gt (tgt := 71) dX7_keepIn_64 rfl (fun h9 => absurd h9 (Int32.not_lt.mpr ((sub_ge (by omega) (by omega) (by omega)).mpr (by omega)))) (fun _ => ?_)
      refine sw_iload_n (i := 2) dX7_keepIn_67 rfl rfl ?_
      refine sw_goto (tgt := 72) dX7_keepIn_68 rfl ?_
      refine sw_ins (pc2 := 72) rfl rfl ?_
      exact sw_ireturn rfl dX7_keepIn_72
set_option maxRecDepth 100000 in
set_option maxHeartbeats 4000000 in
theorem A_X7_keepIn {d : Nat → Nat → Int32} {r : Nat → Nat → Option Nat} {J : Nat → Nat → Int64} {V : Nat → Int32} (hV : mV d = V) (ok : okV V) {q : Nat} (hq : q < nv V 1) (hdue : prt V q 3 ≤ 9999) : ∃ d1, OP kX7_keepIn yX7_keepIn 4 [.ref 65, .int (nI q)] d r J (some (.int (ckp V q))) d1 r J ∧ ∀ c, c ≠ 71 → d1 c = d c := by
  have hx : ckp V q = ckG V (prt V q 2) (prt V q 3 + 1 - (nv V 0 + 0)) (snI V (prt V q 0) 0) 0 := by
    unfold ckp
    rw [Nat.min_eq_left hdue]
    rfl
  obtain ⟨d1, y1, y2⟩ := B_X7_keepIn (r := r) (J := J) ok hq (prt V q 3 + 1 - (nv V 0 + 0)) d 0 hV rfl (Nat.zero_le _)
  rw [hx]
  refine ⟨d1, op_of pl_X7_keepIn (Nat.le_of_ble_eq_true rfl) ?_, y2⟩
  refine sw_ic 0 dX7_keepIn_0 ?_
  refine sw_istore_n (i := 2) dX7_keepIn_1 rfl (Nat.le_of_ble_eq_true rfl) rfl ?_
  refine sw_lo (lo2 := [some (.ref 65), some (.int _), some (.int _)]) rfl ?_
  exact y1
set_option maxRecDepth 100000 in
set_option maxHeartbeats 4000000 in
theorem A_X7_shareTold {d : Nat → Nat → Int32} {r : Nat → Nat → Option Nat} {J : Nat → Nat → Int64} {V : Nat → Int32} (hV : mV d = V) (okC : okCaps V) (okW : okWorth V) : OP kX7_shareTold yX7_shareTold 3 [.ref 65] d r J (some (.double (shr V))) d r J := by
  refine op_of pl_X7_shareTold (Nat.le_of_ble_eq_true rfl) ?_
  have hb := wsm_b okW
  have g0 := A1_X7_allCaps (d := d) (r := r) (J := J) hV
  have g1 := A_X7_worthOf (d := d) (r := r) (J := J) (a := rch V) (rch_lt V)
  rw [aw_nI okC okW] at g0
  rw [hV, pw_nI okC okW (rch_lt V)] at g1
  refine sw_aload_n (i := 0) dX7_shareTold_0 rfl rfl ?_
  refine sw_aload_n (i := 0) dX7_shareTold_1 rfl rfl ?_
  refine px_Vx mv_X7_186 (A_X7_richestTold hV) rfl rfl (Nat.le_of_ble_eq_true rfl) (Nat.le_of_ble_eq_true rfl) ko_65 (Nat.le_of_ble_eq_true rfl) dX7_shareTold_2 ?_
  refine px_Vx mv_X7_167 g1 rfl rfl (Nat.le_of_ble_eq_true rfl) (Nat.le_of_ble_eq_true rfl) ko_65 (Nat.le_of_ble_eq_true rfl) dX7_shareTold_5 ?_
  refine sw_i2d dX7_shareTold_8 ?_
  refine sw_aload_n (i := 0) dX7_shareTold_9 rfl rfl ?_
  refine sw_ic 1 dX7_shareTold_10 ?_
  refine sw_ins (pc2 := 11) rfl rfl ?_
  refine px_Vx mv_X7_176 g0 rfl rfl (Nat.le_of_ble_eq_true rfl) (Nat.le_of_ble_eq_true rfl) ko_65 (Nat.le_of_ble_eq_true rfl) dX7_shareTold_11 ?_
  refine sw_i2d dX7_shareTold_14 ?_
  refine sw_ddiv (shr_n64 okC okW) dX7_shareTold_15 ?_
  exact sw_dreturn rfl dX7_shareTold_16
theorem pw_at : ∀ e, e < 11 → Int64.ofNat (1013 + e) * 4503599627370496 = Int64.ofNat ((1013 + e) * 2 ^ 52) := by decide +kernel
theorem pw_E {E : Nat} (h1 : 1013 ≤ E) (h2 : E ≤ 1023) : Int64.ofNat E * 4503599627370496 = Int64.ofNat (E * 2 ^ 52) := by
  have h := pw_at (E - 1013) (by omega)
  rw [show 1013 + (E - 1013) = E by omega] at h
  exact h
theorem dc_at : ∀ e, e < 11 → Int64.ofNat (1013 + e + 1) - 1 = Int64.ofNat (1013 + e) := by decide +kernel
theorem dc_E {E : Nat} (h1 : 1013 ≤ E) (h2 : E ≤ 1023) : Int64.ofNat (E + 1) - 1 = Int64.ofNat E := by
  have h := dc_at (E - 1013) (by omega)
  rw [show 1013 + (E - 1013) = E by omega] at h
  exact h
set_option maxRecDepth 100000 in
set_option maxHeartbeats 4000000 in
theorem A_X7_bitsOf {d : Nat → Nat → Int32} {r : Nat → Nat → Option Nat} {J : Nat → Nat → Int64} {x : UInt64} {E t : Nat} (h1 : x.toNat = E * 2 ^ 52 + t) (h2 : t < 2 ^ 52) (h3 : 1013 ≤ E) (h4 : E ≤ 1023) : OP kX7_bitsOf yX7_bitsOf 0 [.double x] d r J (some (.long (bts x))) d r J := by
  refine op_of pl_X7_bitsOf (Nat.le_of_ble_eq_true rfl) ?_
  have hx : x.toNat / 2 ^ 52 = E := by omega
  have L : ∀ j, j ≤ 1023 - E → SW yX7_bitsOf cX7_bitsOf 6 (some .long) [] 0 none 7 [some (.double x), none, some (.long (Int64.ofNat (1023 - j))), none, some (.double (dbl x j)), none] [] 75 (W0 d r J) 0 0 (.inl (some (.long (bts x)))) 75 (W0 d r J) := by
    refine am_loop (1023 - E) ?_ ?_
    · have hk := dbl_at h1 h2 (by omega) (1023 - E) (by omega)
      rw [show E + (1023 - E) = 1023 by omega] at hk
      have hc : 0 ≤ Op.cmpValue (FP.dcmp (dbl x (1023 - E)) FP.dconst1) .g := by
        rcases cmp_ge hk h2 with q | q
        · have q : FP.dcmp (dbl x (1023 - E)) FP.dconst1 = some .eq := q
          rw [q]; decide
        · have q : FP.dcmp (dbl x (1023 - E)) FP.dconst1 = some .gt := q
          rw [q]; decide
      have hf := f64_of hk h2 (by decide) (by decide)
      rw [show 1023 - (1023 - E) = E by omega]
      refine sw_dload (i := 4) dX7_bitsOf_7 rfl ?_
      refine sw_dc1 dX7_bitsOf_9 ?_
      refine sw_dcmp dX7_bitsOf_10 ?_
      refine sw_if_ge (tgt := 29) dX7_bitsOf_11 rfl (fun _ => ?_) (fun h9 => absurd hc h9)
      refine sw_lload_n (i := 2) dX7_bitsOf_29 rfl rfl ?_
      refine sw_ldc2 kc_X7_203 dX7_bitsOf_30 ?_
      refine sw_lmul dX7_bitsOf_33 ?_
      refine sw_ins (pc2 := 34) rfl rfl ?_
      refine sw_dload (i := 4) dX7_bitsOf_34 rfl ?_
      refine sw_dc1 dX7_bitsOf_36 ?_
      refine sw_dsub (n64_sub hf ⟨_, _, _, dec_one⟩) dX7_bitsOf_37 ?_
      refine sw_ldc2d kc_X7_205 dX7_bitsOf_38 ?_
      refine sw_dmul (n64_mul (f64_sub hk h2) ⟨_, _, _, dec_big⟩) dX7_bitsOf_41 ?_
      refine sw_d2l dX7_bitsOf_42 ?_
      refine sw_ladd dX7_bitsOf_43 ?_
      exact sw_lreturnE (by unfold bts frc; rw [hx, pw_E h3 h4]; rfl) rfl dX7_bitsOf_44
    · intro j hj ih
      have hk := dbl_at h1 h2 (by omega) j (by omega)
      have hc : ¬ 0 ≤ Op.cmpValue (FP.dcmp (dbl x j) FP.dconst1) .g := by
        have q : FP.dcmp (dbl x j) FP.dconst1 = some .lt := cmp_lt hk h2 (by omega) (by omega)
        rw [q]; decide
      have hf := f64_of hk h2 (by omega) (by omega)
      refine sw_dload (i := 4) dX7_bitsOf_7 rfl ?_
      refine sw_dc1 dX7_bitsOf_9 ?_
      refine sw_dcmp dX7_bitsOf_10 ?_
      refine sw_if_ge (tgt := 29) dX7_bitsOf_11 rfl (fun h9 => absurd h9 hc) (fun _ => ?_)
      refine sw_dload (i := 4) dX7_bitsOf_14 rfl ?_
      refine sw_ldc2d kc_X7_201 dX7_bitsOf_16 ?_
      refine sw_dmul (n64_mul hf ⟨_, _, _, dec_two⟩) dX7_bitsOf_19 ?_
      refine sw_ins (pc2 := 20) rfl rfl ?_
      refine sw_dstore (i := 4) dX7_bitsOf_20 (Nat.le_of_ble_eq_true rfl) rfl ?_
      refine sw_lo (lo2 := [some (.double _), none, some (.long _), none, some (.double _), none]) rfl ?_
      refine sw_lload_n (i := 2) dX7_bitsOf_22 rfl rfl ?_
      refine sw_lc (v := 1) dX7_bitsOf_23 (by decide) ?_
      refine sw_lsub dX7_bitsOf_24 ?_
      rw [show Int64.ofNat (1023 - j) - 1 = Int64.ofNat (1023 - (j + 1)) by rw [show 1023 - j = (1023 - (j + 1)) + 1 by omega]; exact dc_E (by omega) (by omega)]
      refine sw_lstore_n (i := 2) dX7_bitsOf_25 rfl (Nat.le_of_ble_eq_true rfl) rfl ?_
      refine sw_lo (lo2 := [some (.double _), none, some (.long _), none, some (.double _), none]) rfl ?_
      refine sw_goto (tgt := 7) dX7_bitsOf_26 rfl ?_
      exact ih
  refine sw_ldc2 kc_X7_199 dX7_bitsOf_0 ?_
  refine sw_lstore_n (i := 2) dX7_bitsOf_3 rfl (Nat.le_of_ble_eq_true rfl) rfl ?_
  refine sw_lo (lo2 := [some (.double _), none, some (.long _), none, none, none]) rfl ?_
  refine sw_dload_n (i := 0) dX7_bitsOf_4 rfl rfl ?_
  refine sw_dstore (i := 4) dX7_bitsOf_5 (Nat.le_of_ble_eq_true rfl) rfl ?_
  refine sw_lo (lo2 := [some (.double _), none, some (.long _), none, some (.double _), none]) rfl ?_
  exact L 0 (Nat.zero_le _)
theorem d2_d2 {α : Type} (d : Nat → Nat → α) (c j : Nat) (x y : α) : d2 (d2 d c j x) c j y = d2 d c j y := by
  funext k i
  by_cases h : k = c ∧ i = j
  · obtain ⟨rfl, rfl⟩ := h
    rw [d2_eq, d2_eq]
  · have h2 : k ≠ c ∨ i ≠ j := by
      by_cases e : k = c
      · exact Or.inr (fun q => h ⟨e, q⟩)
      · exact Or.inl e
    rw [d2_ne _ _ h2, d2_ne _ _ h2, d2_ne _ _ h2]
set_option maxRecDepth 100000 in
set_option maxHeartbeats 4000000 in
theorem A_X7_mix {d : Nat → Nat → Int32} {r : Nat → Nat → Option Nat} {J : Nat → Nat → Int64} {x v : Int64} : OP kX7_mix yX7_mix 0 [.ref 65, .long v] d r (d2 J 65 14 x) none d r (d2 J 65 14 (31 * x + v)) := by
  refine op_of pl_X7_mix (Nat.le_of_ble_eq_true rfl) ?_
  refine sw_aload_n (i := 0) dX7_mix_0 rfl rfl ?_
  refine sw_ldc2 kc_X7_207 dX7_mix_1 ?_
  refine sw_aload_n (i := 0) dX7_mix_4 rfl rfl ?_
  refine sx_getJ f_X7_209 (by decide) kj_65_14 dX7_mix_5 ?_
  rw [d2_eq]
  refine sw_lmul dX7_mix_8 ?_
  refine sw_lload_n (i := 1) dX7_mix_9 rfl rfl ?_
  refine sw_ladd dX7_mix_10 ?_
  refine sw_ins (pc2 := 11) rfl rfl ?_
  refine sx_putJ fp_X7_209 (by decide) kj_65_14 dX7_mix_11 ?_
  rw [d2_d2]
  exact sw_return rfl dX7_mix_14
