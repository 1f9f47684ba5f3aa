/-! THE TEXT, 2: digitAt, sumOfOrder, daysOfOrder, nextOrder, errorAt, tellsOrders (own work, written by wip/tools) -/
set_option maxRecDepth 100000 in
set_option maxHeartbeats 4000000 in
theorem A_X4_digitAt {d : Nat → Nat → Int32} {r : Nat → Nat → Option Nat} {J : Nat → Nat → Int64} {L a : Nat} (hL : d 48 1 = nI L) (ok : okT (d 49) L) (ha : a < 2 ^ 31) : OP kX4_digitAt yX4_digitAt 1 [.ref 48, .int (nI a)] d r J (some (.int (dgt (sg (d 49) L a)))) d r J := by
  refine op_of pl_X4_digitAt (Nat.le_of_ble_eq_true rfl) ?_
  have hg := sg_lt ok a
  refine sw_aload_n (i := 0) dX4_digitAt_0 rfl rfl ?_
  refine sw_iload_n (i := 1) dX4_digitAt_1 rfl rfl ?_
  refine px_Vx mv_X4_35 (A_X4_signAt (a := a) hL ok ha) rfl rfl (Nat.le_of_ble_eq_true rfl) (Nat.le_of_ble_eq_true rfl) ko_48 (Nat.le_of_ble_eq_true rfl) dX4_digitAt_2 ?_
  refine sw_istore_n (i := 2) dX4_digitAt_5 rfl (Nat.le_of_ble_eq_true rfl) rfl ?_
  refine sw_lo (lo2 := [some (.ref 48), some (.int _), some (.int _)]) rfl ?_
  refine sw_iload_n (i := 2) dX4_digitAt_6 rfl rfl ?_
  refine sw_bi 48 dX4_digitAt_7 (by decide +kernel) ?_
  refine sw_ic_lt (tgt := 25) dX4_digitAt_9 rfl (fun h9 => ?_) (fun h9 => ?_)
  ·
    refine sw_ins (pc2 := 25) rfl rfl ?_
    refine sw_im1 dX4_digitAt_25 ?_
    refine sw_ireturnE ?_ rfl dX4_digitAt_26
    unfold dgt
    first | rw [if_neg (by have := (nI_ltI (by omega) (by decide)).mp h9; omega)] | rw [if_neg (by have := (nI_ltI (by decide) (by omega)).mp h15; omega)] | rw [if_pos (by have a1 : ¬ sg (d 49) L a < 48 := fun q => h9 ((nI_ltI (by omega) (by decide)).mpr q); have a2 : ¬ 57 < sg (d 49) L a := fun q => h15 ((nI_ltI (by decide) (by omega)).mpr q); omega)]
  ·
    refine sw_iload_n (i := 2) dX4_digitAt_12 rfl rfl ?_
    refine sw_bi 57 dX4_digitAt_13 (by decide +kernel) ?_
    refine sw_ic_gt (tgt := 25) dX4_digitAt_15 rfl (fun h15 => ?_) (fun h15 => ?_)
    ·
      refine sw_im1 dX4_digitAt_25 ?_
      refine sw_ireturnE ?_ rfl dX4_digitAt_26
      unfold dgt
      first | rw [if_neg (by have := (nI_ltI (by omega) (by decide)).mp h9; omega)] | rw [if_neg (by have := (nI_ltI (by decide) (by omega)).mp h15; omega)] | rw [if_pos (by have a1 : ¬ sg (d 49) L a < 48 := fun q => h9 ((nI_ltI (by omega) (by decide)).mpr q); have a2 : ¬ 57 < sg (d 49) L a := fun q => h15 ((nI_ltI (by decide) (by omega)).mpr q); omega)]
    ·
      refine sw_iload_n (i := 2) dX4_digitAt_18 rfl rfl ?_
      refine sw_ins (pc2 := 19) rfl rfl ?_
      refine sw_bi 48 dX4_digitAt_19 (by decide +kernel) ?_
      refine sw_isub dX4_digitAt_21 ?_
      refine sw_topE (v := nI (sg (d 49) L a - 48)) (pk_sub (by have a1 : ¬ sg (d 49) L a < 48 := fun q => h9 ((nI_ltI (by omega) (by decide)).mpr q); omega)) ?_
      refine sw_goto (tgt := 26) dX4_digitAt_22 rfl ?_
      refine sw_ireturnE ?_ rfl dX4_digitAt_26
      unfold dgt
      first | rw [if_neg (by have := (nI_ltI (by omega) (by decide)).mp h9; omega)] | rw [if_neg (by have := (nI_ltI (by decide) (by omega)).mp h15; omega)] | rw [if_pos (by have a1 : ¬ sg (d 49) L a < 48 := fun q => h9 ((nI_ltI (by omega) (by decide)).mpr q); have a2 : ¬ 57 < sg (d 49) L a := fun q => h15 ((nI_ltI (by decide) (by omega)).mpr q); omega)]
set_option maxRecDepth 100000 in
set_option maxHeartbeats 4000000 in
theorem A_X4_sumOfOrder {d : Nat → Nat → Int32} {r : Nat → Nat → Option Nat} {J : Nat → Nat → Int64} {L a : Nat} (hL : d 48 1 = nI L) (ok : okT (d 49) L) (ha : a < 2 ^ 30) : OP kX4_sumOfOrder yX4_sumOfOrder 2 [.ref 48, .int (nI a)] d r J (some (.int (smO (d 49) L a))) d r J := by
  refine op_of pl_X4_sumOfOrder (Nat.le_of_ble_eq_true rfl) ?_
  refine sw_aload_n (i := 0) dX4_sumOfOrder_0 rfl rfl ?_
  refine sw_iload_n (i := 1) dX4_sumOfOrder_1 rfl rfl ?_
  refine sw_ic 4 dX4_sumOfOrder_2 ?_
  refine sw_iadd dX4_sumOfOrder_3 ?_
  refine sw_topE (v := nI (a + 4)) (nI_add _ _) ?_
  refine px_Vx mv_X4_87 (A_X4_digitAt (a := a + 4) hL ok (by omega)) rfl rfl (Nat.le_of_ble_eq_true rfl) (Nat.le_of_ble_eq_true rfl) ko_48 (Nat.le_of_ble_eq_true rfl) dX4_sumOfOrder_4 ?_
  refine sw_istore_n (i := 2) dX4_sumOfOrder_7 rfl (Nat.le_of_ble_eq_true rfl) rfl ?_
  refine sw_lo (lo2 := [some (.ref 48), some (.int _), some (.int _), none]) rfl ?_
  refine sw_aload_n (i := 0) dX4_sumOfOrder_8 rfl rfl ?_
  refine sw_ins (pc2 := 9) rfl rfl ?_
  refine sw_iload_n (i := 1) dX4_sumOfOrder_9 rfl rfl ?_
  refine sw_ic 5 dX4_sumOfOrder_10 ?_
  refine sw_iadd dX4_sumOfOrder_11 ?_
  refine sw_topE (v := nI (a + 5)) (nI_add _ _) ?_
  refine px_Vx mv_X4_87 (A_X4_digitAt (a := a + 5) hL ok (by omega)) rfl rfl (Nat.le_of_ble_eq_true rfl) (Nat.le_of_ble_eq_true rfl) ko_48 (Nat.le_of_ble_eq_true rfl) dX4_sumOfOrder_12 ?_
  refine sw_istore_n (i := 3) dX4_sumOfOrder_15 rfl (Nat.le_of_ble_eq_true rfl) rfl ?_
  refine sw_lo (lo2 := [some (.ref 48), some (.int _), some (.int _), some (.int _)]) rfl ?_
  refine sw_iload_n (i := 3) dX4_sumOfOrder_16 rfl rfl ?_
  refine sw_im1 dX4_sumOfOrder_17 ?_
  refine sw_ic_ne (tgt := 25) dX4_sumOfOrder_18 rfl (fun h18 => ?_) (fun h18 => ?_)
  ·
    refine sw_ins (pc2 := 25) rfl rfl ?_
    refine sw_iload_n (i := 2) dX4_sumOfOrder_25 rfl rfl ?_
    refine sw_bi 10 dX4_sumOfOrder_26 (by decide +kernel) ?_
    refine sw_imul dX4_sumOfOrder_28 ?_
    refine sw_iload_n (i := 3) dX4_sumOfOrder_29 rfl rfl ?_
    refine sw_iadd dX4_sumOfOrder_30 ?_
    refine sw_ireturnE ?_ rfl dX4_sumOfOrder_31
    unfold smO
    first | rw [if_neg h18] | rw [if_pos h18]
  ·
    refine sw_iload_n (i := 2) dX4_sumOfOrder_21 rfl rfl ?_
    refine sw_goto (tgt := 31) dX4_sumOfOrder_22 rfl ?_
    refine sw_ins (pc2 := 31) rfl rfl ?_
    refine sw_ireturnE ?_ rfl dX4_sumOfOrder_31
    unfold smO
    first | rw [if_neg h18] | rw [if_pos h18]
set_option maxRecDepth 100000 in
set_option maxHeartbeats 4000000 in
theorem A_X4_daysOfOrder {d : Nat → Nat → Int32} {r : Nat → Nat → Option Nat} {J : Nat → Nat → Int64} {L a : Nat} (hL : d 48 1 = nI L) (ok : okT (d 49) L) (ha : a < 2 ^ 30) : OP kX4_daysOfOrder yX4_daysOfOrder 2 [.ref 48, .int (nI a)] d r J (some (.int (dyO (d 49) L a))) d r J := by
  refine op_of pl_X4_daysOfOrder (Nat.le_of_ble_eq_true rfl) ?_
  refine sw_aload_n (i := 0) dX4_daysOfOrder_0 rfl rfl ?_
  refine sw_aload_n (i := 0) dX4_daysOfOrder_1 rfl rfl ?_
  refine sw_iload_n (i := 1) dX4_daysOfOrder_2 rfl rfl ?_
  refine sw_ic 5 dX4_daysOfOrder_3 ?_
  refine sw_iadd dX4_daysOfOrder_4 ?_
  refine sw_topE (v := nI (a + 5)) (nI_add _ _) ?_
  refine px_Vx mv_X4_87 (A_X4_digitAt (a := a + 5) hL ok (by omega)) rfl rfl (Nat.le_of_ble_eq_true rfl) (Nat.le_of_ble_eq_true rfl) ko_48 (Nat.le_of_ble_eq_true rfl) dX4_daysOfOrder_5 ?_
  refine sw_im1 dX4_daysOfOrder_8 ?_
  refine sw_ins (pc2 := 9) rfl rfl ?_
  refine sw_ic_ne (tgt := 19) dX4_daysOfOrder_9 rfl (fun h9 => ?_) (fun h9 => ?_)
  ·
    refine sw_iload_n (i := 1) dX4_daysOfOrder_19 rfl rfl ?_
    refine sw_bi 7 dX4_daysOfOrder_20 (by decide +kernel) ?_
    refine sw_iadd dX4_daysOfOrder_22 ?_
    refine sw_topE (v := nI (a + 7)) (nI_add _ _) ?_
    refine px_Vx mv_X4_87 (A_X4_digitAt (a := a + 7) hL ok (by omega)) rfl rfl (Nat.le_of_ble_eq_true rfl) (Nat.le_of_ble_eq_true rfl) ko_48 (Nat.le_of_ble_eq_true rfl) dX4_daysOfOrder_23 ?_
    refine sw_ireturnE ?_ rfl dX4_daysOfOrder_26
    unfold dyO
    first | rw [if_neg h9] | rw [if_pos h9]
  ·
    refine sw_iload_n (i := 1) dX4_daysOfOrder_12 rfl rfl ?_
    refine sw_bi 6 dX4_daysOfOrder_13 (by decide +kernel) ?_
    refine sw_ins (pc2 := 15) rfl rfl ?_
    refine sw_iadd dX4_daysOfOrder_15 ?_
    refine sw_topE (v := nI (a + 6)) (nI_add _ _) ?_
    refine sw_goto (tgt := 23) dX4_daysOfOrder_16 rfl ?_
    refine px_Vx mv_X4_87 (A_X4_digitAt (a := a + 6) hL ok (by omega)) rfl rfl (Nat.le_of_ble_eq_true rfl) (Nat.le_of_ble_eq_true rfl) ko_48 (Nat.le_of_ble_eq_true rfl) dX4_daysOfOrder_23 ?_
    refine sw_ireturnE ?_ rfl dX4_daysOfOrder_26
    unfold dyO
    first | rw [if_neg h9] | rw [if_pos h9]
set_option maxRecDepth 100000 in
set_option maxHeartbeats 4000000 in
theorem A_X4_nextOrder {d : Nat → Nat → Int32} {r : Nat → Nat → Option Nat} {J : Nat → Nat → Int64} {L a : Nat} (hL : d 48 1 = nI L) (ok : okT (d 49) L) (ha : a ≤ L) : OP kX4_nextOrder yX4_nextOrder 1 [.ref 48, .int (nI a)] d r J (some (.int (nI (nxG (d 49) L (L - a) a + 1)))) d r J := by
  refine op_of pl_X4_nextOrder (Nat.le_of_ble_eq_true rfl) ?_
  have hL9 : L < 2 ^ 31 := by have := ok.1; omega
  have L0 : ∀ k s, k + s = L → nxG (d 49) L k s = nxG (d 49) L (L - a) a → SW yX4_nextOrder cX4_nextOrder 3 (some .int) [] 1 none 2 [some (.ref 48), some (.int (nI a)), some (.int (nI s))] [] 75 (W0 d r J) 0 0 (.inl (some (.int (nI (nxG (d 49) L (L - a) a + 1))))) 75 (W0 d r J) := by
    intro k
    induction k with
    | zero =>
      intro s hs he
      have e9 : s = L := by omega
      subst e9
      refine sw_iload_n (i := 2) dX4_nextOrder_2 rfl rfl ?_
      refine sw_aload_n (i := 0) dX4_nextOrder_3 rfl rfl ?_
      refine sx_getIE (nI s) hL f_X4_15 (by decide) kf_48_1 dX4_nextOrder_4 ?_
      refine sw_ic_ge (tgt := 26) dX4_nextOrder_7 rfl (fun _ => ?_) (fun h9 => absurd (nI_le (Nat.le_refl _) hL9) h9)
      refine sw_iload_n (i := 2) dX4_nextOrder_26 rfl rfl ?_
      refine sw_ic 1 dX4_nextOrder_27 ?_
      refine sw_iadd dX4_nextOrder_28 ?_
      refine sw_ins (pc2 := 29) rfl rfl ?_
      exact sw_ireturnE (by rw [← he]; exact nI_1 _) rfl dX4_nextOrder_29
    | succ k ih =>
      intro s hs he
      have hg := sg_lt ok s
      refine sw_iload_n (i := 2) dX4_nextOrder_2 rfl rfl ?_
      refine sw_aload_n (i := 0) dX4_nextOrder_3 rfl rfl ?_
      refine sx_getIE (nI L) hL f_X4_15 (by decide) kf_48_1 dX4_nextOrder_4 ?_
      refine sw_ic_ge (tgt := 26) dX4_nextOrder_7 rfl (fun h9 => absurd h9 (nI_ge (by omega) hL9)) (fun _ => ?_)
      refine sw_aload_n (i := 0) dX4_nextOrder_10 rfl rfl ?_
      refine sw_iload_n (i := 2) dX4_nextOrder_11 rfl rfl ?_
      refine px_Vx mv_X4_35 (A_X4_signAt (a := s) hL ok (by omega)) rfl rfl (Nat.le_of_ble_eq_true rfl) (Nat.le_of_ble_eq_true rfl) ko_48 (Nat.le_of_ble_eq_true rfl) dX4_nextOrder_12 ?_
      refine sw_ins (pc2 := 15) rfl rfl ?_
      refine sw_bi 59 dX4_nextOrder_15 (by decide +kernel) ?_
      refine sw_ic_eq (tgt := 26) dX4_nextOrder_17 rfl (fun h17 => ?_) (fun h17 => ?_)
      ·
        refine sw_iload_n (i := 2) dX4_nextOrder_26 rfl rfl ?_
        refine sw_ic 1 dX4_nextOrder_27 ?_
        refine sw_iadd dX4_nextOrder_28 ?_
        exact sw_ireturnE (by rw [← he, nxG_s, if_pos ((nI_eq (by omega) (by decide)).mp h17)]; exact nI_1 _) rfl dX4_nextOrder_29
      ·
        refine sw_iinc (i := 2) (v := nI (s + 1)) dX4_nextOrder_20 rfl (nI_1 _) (Nat.le_of_ble_eq_true rfl) rfl ?_
        refine sw_lo (lo2 := [some (.ref 48), some (.int _), some (.int _)]) rfl ?_
        refine sw_goto (tgt := 2) dX4_nextOrder_23 rfl ?_
        refine ih (s + 1) (by omega) ?_
        rw [← he, nxG_s, if_neg (fun e9 => h17 (by rw [e9]))]
  refine sw_iload_n (i := 1) dX4_nextOrder_0 rfl rfl ?_
  refine sw_istore_n (i := 2) dX4_nextOrder_1 rfl (Nat.le_of_ble_eq_true rfl) rfl ?_
  refine sw_lo (lo2 := [some (.ref 48), some (.int _), some (.int _)]) rfl ?_
  exact L0 (L - a) a (by omega) rfl
set_option maxRecDepth 100000 in
set_option maxHeartbeats 4000000 in
theorem A_X4_errorAt {d : Nat → Nat → Int32} {r : Nat → Nat → Option Nat} {J : Nat → Nat → Int64} {L : Nat} (hL : d 48 1 = nI L) (ok : okT (d 49) L) : OP kX4_errorAt yX4_errorAt 2 [.ref 48] d r J (some (.int (nI (erG (d 49) L L 0)))) d r J := by
  refine op_of pl_X4_errorAt (Nat.le_of_ble_eq_true rfl) ?_
  have hL9 : L < 2 ^ 31 := by have := ok.1; omega
  have hL8 := ok.1
  have L0 : ∀ k s, k + s = L → erG (d 49) L k s = erG (d 49) L L 0 → SW yX4_errorAt cX4_errorAt 3 (some .int) [] 2 none 6 [some (.ref 48), some (.ref (1000 + rnS (d 49) L s)), some (.int (nI s))] [] 75 (W0 d r J) 0 0 (.inl (some (.int (nI (erG (d 49) L L 0))))) 75 (W0 d r J) := by
    intro k
    induction k with
    | zero =>
      intro s hs he
      have e9 : s = L := by omega
      subst e9
      refine sw_iload_n (i := 2) dX4_errorAt_6 rfl rfl ?_
      refine sw_aload_n (i := 0) dX4_errorAt_7 rfl rfl ?_
      refine sx_getIE (nI s) hL f_X4_15 (by decide) kf_48_1 dX4_errorAt_8 ?_
      refine sw_ic_ge (tgt := 36) dX4_errorAt_11 rfl (fun _ => ?_) (fun h9 => absurd (nI_le (Nat.le_refl _) hL9) h9)
      refine sw_aload_n (i := 0) dX4_errorAt_36 rfl rfl ?_
      refine sx_getIE (nI s) hL f_X4_15 (by decide) kf_48_1 dX4_errorAt_37 ?_
      exact sw_ireturnE (by rw [← he]; rfl) rfl dX4_errorAt_40
    | succ k ih =>
      intro s hs he
      have hr9 := rnS_lt (d 49) L (s + 1)
      refine sw_iload_n (i := 2) dX4_errorAt_6 rfl rfl ?_
      refine sw_aload_n (i := 0) dX4_errorAt_7 rfl rfl ?_
      refine sx_getIE (nI L) hL f_X4_15 (by decide) kf_48_1 dX4_errorAt_8 ?_
      refine sw_ic_ge (tgt := 36) dX4_errorAt_11 rfl (fun h9 => absurd h9 (nI_ge (by omega) hL9)) (fun _ => ?_)
      refine sw_aload_n (i := 0) dX4_errorAt_14 rfl rfl ?_
      refine sw_aload_n (i := 1) dX4_errorAt_15 rfl rfl ?_
      refine sw_iload_n (i := 2) dX4_errorAt_16 rfl rfl ?_
      refine sw_ins (pc2 := 17) rfl rfl ?_
      refine px_Vx mv_X4_25 (A_X4_stepBehind hL ok (rnS_lt _ _ s) (by omega)) rfl rfl (Nat.le_of_ble_eq_true rfl) (Nat.le_of_ble_eq_true rfl) ko_48 (Nat.le_of_ble_eq_true rfl) dX4_errorAt_17 ?_
      refine sw_astore_n (i := 1) dX4_errorAt_20 rfl (Nat.le_of_ble_eq_true rfl) rfl ?_
      refine sw_lo (lo2 := [some (.ref 48), some (.ref (1000 + rnS (d 49) L (s + 1))), some (.int _)]) rfl ?_
      refine sw_aload_n (i := 1) dX4_errorAt_21 rfl rfl ?_
      refine sw_getE 12 (by decide) gs_X4_29 dX4_errorAt_22 ?_
      refine sw_acne (tgt := 30) hr9 (by decide) dX4_errorAt_25 rfl (fun h25 => ?_) (fun h25 => ?_)
      ·
        refine sw_iinc (i := 2) (v := nI (s + 1)) dX4_errorAt_30 rfl (nI_1 _) (Nat.le_of_ble_eq_true rfl) rfl ?_
        refine sw_lo (lo2 := [some (.ref 48), some (.ref (1000 + rnS (d 49) L (s + 1))), some (.int _)]) rfl ?_
        refine sw_goto (tgt := 6) dX4_errorAt_33 rfl ?_
        refine ih (s + 1) (by omega) ?_
        rw [← he, erG_s, if_neg h25]
      ·
        refine sw_iload_n (i := 2) dX4_errorAt_28 rfl rfl ?_
        refine sw_ins (pc2 := 29) rfl rfl ?_
        exact sw_ireturnE (by rw [← he, erG_s, if_pos h25]) rfl dX4_errorAt_29
  refine sw_getE 0 (by decide) gs_X4_19 dX4_errorAt_0 ?_
  refine sw_astore_n (i := 1) dX4_errorAt_3 rfl (Nat.le_of_ble_eq_true rfl) rfl ?_
  refine sw_lo (lo2 := [some (.ref 48), some (.ref (1000 + 0)), none]) rfl ?_
  refine sw_ic 0 dX4_errorAt_4 ?_
  refine sw_istore_n (i := 2) dX4_errorAt_5 rfl (Nat.le_of_ble_eq_true rfl) rfl ?_
  refine sw_lo (lo2 := [some (.ref 48), some (.ref (1000 + 0)), some (.int _)]) rfl ?_
  exact L0 L 0 (by omega) rfl
def tel (f : Nat → Int32) (L : Nat) : Int32 := if rnS f L L = 11 then nI 1 else nI 0
set_option maxRecDepth 100000 in
set_option maxHeartbeats 4000000 in
theorem A_X4_tellsOrders {d : Nat → Nat → Int32} {r : Nat → Nat → Option Nat} {J : Nat → Nat → Int64} {L : Nat} (hL : d 48 1 = nI L) (ok : okT (d 49) L) : OP kX4_tellsOrders yX4_tellsOrders 2 [.ref 48] d r J (some (.int (tel (d 49) L))) d r J := by
  refine op_of pl_X4_tellsOrders (Nat.le_of_ble_eq_true rfl) ?_
  have hL9 : L < 2 ^ 31 := by have := ok.1; omega
  have hL8 := ok.1
  have L0 : ∀ i, i ≤ L → SW yX4_tellsOrders cX4_tellsOrders 3 (some .boolean) [] 2 none 6 [some (.ref 48), some (.ref (1000 + rnS (d 49) L i)), some (.int (nI i))] [] 75 (W0 d r J) 0 0 (.inl (some (.int (tel (d 49) L)))) 75 (W0 d r J) := by
    refine am_loop L ?_ ?_
    ·
      refine sw_iload_n (i := 2) dX4_tellsOrders_6 rfl rfl ?_
      refine sw_aload_n (i := 0) dX4_tellsOrders_7 rfl rfl ?_
      refine sx_getIE (nI L) hL f_X4_15 (by decide) kf_48_1 dX4_tellsOrders_8 ?_
      refine sw_ic_ge (tgt := 27) dX4_tellsOrders_11 rfl (fun _ => ?_) (fun h9 => absurd (nI_le (Nat.le_refl _) hL9) h9)
      refine sw_aload_n (i := 1) dX4_tellsOrders_27 rfl rfl ?_
      refine sw_getE 11 (by decide) gs_X4_32 dX4_tellsOrders_28 ?_
      refine sw_acne (tgt := 38) (rnS_lt _ _ L) (by decide) dX4_tellsOrders_31 rfl (fun h31 => ?_) (fun h31 => ?_)
      ·
        refine sw_ins (pc2 := 38) rfl rfl ?_
        refine sw_ic 0 dX4_tellsOrders_38 ?_
        exact sw_zreturnE (by unfold tel; first | rw [if_neg h31] | rw [if_pos h31]) rfl (by unfold tel; first | (rw [if_neg h31]; rfl) | (rw [if_pos h31]; rfl)) dX4_tellsOrders_39
      ·
        refine sw_ic 1 dX4_tellsOrders_34 ?_
        refine sw_goto (tgt := 39) dX4_tellsOrders_35 rfl ?_
        exact sw_zreturnE (by unfold tel; first | rw [if_neg h31] | rw [if_pos h31]) rfl (by unfold tel; first | (rw [if_neg h31]; rfl) | (rw [if_pos h31]; rfl)) dX4_tellsOrders_39
    · intro s hs ih
      refine sw_iload_n (i := 2) dX4_tellsOrders_6 rfl rfl ?_
      refine sw_aload_n (i := 0) dX4_tellsOrders_7 rfl rfl ?_
      refine sx_getIE (nI L) hL f_X4_15 (by decide) kf_48_1 dX4_tellsOrders_8 ?_
      refine sw_ic_ge (tgt := 27) dX4_tellsOrders_11 rfl (fun h9 => absurd h9 (nI_ge hs hL9)) (fun _ => ?_)
      refine sw_aload_n (i := 0) dX4_tellsOrders_14 rfl rfl ?_
      refine sw_aload_n (i := 1) dX4_tellsOrders_15 rfl rfl ?_
      refine sw_iload_n (i := 2) dX4_tellsOrders_16 rfl rfl ?_
      refine sw_ins (pc2 := 17) rfl rfl ?_
      refine px_Vx mv_X4_25 (A_X4_stepBehind hL ok (rnS_lt _ _ s) (by omega)) rfl rfl (Nat.le_of_ble_eq_true rfl) (Nat.le_of_ble_eq_true rfl) ko_48 (Nat.le_of_ble_eq_true rfl) dX4_tellsOrders_17 ?_
      refine sw_astore_n (i := 1) dX4_tellsOrders_20 rfl (Nat.le_of_ble_eq_true rfl) rfl ?_
      refine sw_lo (lo2 := [some (.ref 48), some (.ref (1000 + rnS (d 49) L (s + 1))), some (.int _)]) rfl ?_
      refine sw_iinc (i := 2) (v := nI (s + 1)) dX4_tellsOrders_21 rfl (nI_1 _) (Nat.le_of_ble_eq_true rfl) rfl ?_
      refine sw_lo (lo2 := [some (.ref 48), some (.ref (1000 + rnS (d 49) L (s + 1))), some (.int _)]) rfl ?_
      refine sw_goto (tgt := 6) dX4_tellsOrders_24 rfl ?_
      exact ih
  refine sw_getE 0 (by decide) gs_X4_19 dX4_tellsOrders_0 ?_
  refine sw_astore_n (i := 1) dX4_tellsOrders_3 rfl (Nat.le_of_ble_eq_true rfl) rfl ?_
  refine sw_lo (lo2 := [some (.ref 48), some (.ref (1000 + 0)), none]) rfl ?_
  refine sw_ic 0 dX4_tellsOrders_4 ?_
  refine sw_istore_n (i := 2) dX4_tellsOrders_5 rfl (Nat.le_of_ble_eq_true rfl) rfl ?_
  refine sw_lo (lo2 := [some (.ref 48), some (.ref (1000 + 0)), some (.int _)]) rfl ?_
  exact L0 0 (Nat.zero_le _)
