/-! THE ISLAND, 2: senderTo, circle, sumOf; hand, swapPaths, makePromise (own work, written by wip/tools) -/
set_option maxRecDepth 100000 in
set_option maxHeartbeats 4000000 in
theorem A_X2_senderTo {d : Nat → Nat → Int32} {r : Nat → Nat → Option Nat} {J : Nat → Nat → Int64} {b i : Nat} (hb : isB b) (ok : okPath (cV d b)) (hi : i < 8) : OP kX2_senderTo yX2_senderTo 2 [.ref b, .int (nI i)] d r J (some (.int (nI (snd (cV d b) i)))) d r J := by
  refine op_of pl_X2_senderTo (Nat.le_of_ble_eq_true rfl) ?_
  have L : ∀ f s, f + s = 7 → sndG (cV d b) i f s = snd (cV d b) i → SW yX2_senderTo cX2_senderTo 3 (some .int) [] 2 none 2 [some (.ref b), some (.int (nI i)), some (.int (nI s))] [] 65 (W0 d r J) 0 0 (.inl (some (.int (nI (snd (cV d b) i))))) 65 (W0 d r J) := by
    intro f
    induction f with
    | zero =>
      intro s hs he
      have hs7 : s = 7 := by omega
      subst hs7
      refine sw_iload_n (i := 2) dX2_senderTo_2 rfl rfl ?_
      refine sw_bi 7 dX2_senderTo_3 (by decide +kernel) ?_
      refine sw_ic_ge (tgt := 23) dX2_senderTo_5 rfl (fun _ => ?_) (fun h9 => absurd (nI_le (Nat.le_refl _) (by decide)) h9)
      refine sw_iload_n (i := 2) dX2_senderTo_23 rfl rfl ?_
      exact sw_ireturnE (by rw [← he]; rfl) rfl dX2_senderTo_24
    | succ f ih =>
      intro s hs he
      have hp := ok.1 s (by omega)
      refine sw_iload_n (i := 2) dX2_senderTo_2 rfl rfl ?_
      refine sw_bi 7 dX2_senderTo_3 (by decide +kernel) ?_
      refine sw_ic_ge (tgt := 23) dX2_senderTo_5 rfl (fun h9 => absurd h9 (nI_ge (by omega) (by decide))) (fun _ => ?_)
      refine sw_aload_n (i := 0) dX2_senderTo_8 rfl rfl ?_
      refine sw_iload_n (i := 2) dX2_senderTo_9 rfl rfl ?_
      refine px_Vx mv_X2_77 (P_X2_leadsTo (a := s) hb ok (by omega)) rfl rfl (Nat.le_of_ble_eq_true rfl) (Nat.le_of_ble_eq_true rfl) (kO_B hb) (Nat.le_of_ble_eq_true rfl) dX2_senderTo_10 ?_
      refine sw_iload_n (i := 1) dX2_senderTo_13 rfl rfl ?_
      refine sw_ins (pc2 := 14) rfl rfl ?_
      refine sw_ic_eq (tgt := 23) dX2_senderTo_14 rfl (fun h14 => ?_) (fun h14 => ?_)
      ·
        refine sw_iload_n (i := 2) dX2_senderTo_23 rfl rfl ?_
        refine sw_ireturnE ?_ rfl dX2_senderTo_24
        rw [← he, sndG_s, if_pos ((nI_eq (Nat.lt_trans hp.2 (by decide)) (Nat.lt_trans hi (by decide))).mp h14)]
      ·
        refine sw_iinc (i := 2) (v := nI (s + 1)) dX2_senderTo_17 rfl (nI_1 _) (Nat.le_of_ble_eq_true rfl) rfl ?_
        refine sw_lo (lo2 := [some (.ref b), some (.int _), some (.int _)]) rfl ?_
        refine sw_goto (tgt := 2) dX2_senderTo_20 rfl ?_
        refine ih (s + 1) (by omega) ?_
        rw [← he, sndG_s, if_neg (fun e9 => h14 (by rw [e9]))]
  refine sw_ic 0 dX2_senderTo_0 ?_
  refine sw_istore_n (i := 2) dX2_senderTo_1 rfl (Nat.le_of_ble_eq_true rfl) rfl ?_
  refine sw_lo (lo2 := [some (.ref b), some (.int _), some (.int _)]) rfl ?_
  exact L 7 0 rfl rfl
set_option maxRecDepth 100000 in
set_option maxHeartbeats 4000000 in
theorem A_X2_circle {d : Nat → Nat → Int32} {r : Nat → Nat → Option Nat} {J : Nat → Nat → Int64} {b a : Nat} (hb : isB b) (ok : okPath (cV d b)) (ha : a < 8) : OP kX2_circle yX2_circle 2 [.ref b, .int (nI a)] d r J (some (.int (nI (crc (cV d b) a)))) d r J := by
  refine op_of pl_X2_circle (Nat.le_of_ble_eq_true rfl) ?_
  have L : ∀ f n, f + n = 8 → crcG (cV d b) a f n = crc (cV d b) a → SW yX2_circle cX2_circle 4 (some .int) [] 2 none 8 [some (.ref b), some (.int (nI a)), some (.int (nI n)), some (.int (nI (alg (cV d b) a n)))] [] 65 (W0 d r J) 0 0 (.inl (some (.int (nI (crc (cV d b) a))))) 65 (W0 d r J) := by
    intro f
    induction f with
    | zero =>
      intro n hn he
      have hn8 : n = 8 := by omega
      subst hn8
      refine sw_iload_n (i := 3) dX2_circle_8 rfl rfl ?_
      refine sw_iload_n (i := 1) dX2_circle_9 rfl rfl ?_
      refine sw_ic_eq (tgt := 31) dX2_circle_10 rfl (fun h10 => ?_) (fun h10 => ?_)
      ·
        refine sw_iload_n (i := 2) dX2_circle_31 rfl rfl ?_
        exact sw_ireturnE (by rw [← he]; rfl) rfl dX2_circle_32
      ·
        refine sw_iload_n (i := 2) dX2_circle_13 rfl rfl ?_
        refine sw_bi 8 dX2_circle_14 (by decide +kernel) ?_
        refine sw_ins (pc2 := 16) rfl rfl ?_
        refine sw_ic_ge (tgt := 31) dX2_circle_16 rfl (fun _ => ?_) (fun h9 => absurd (nI_le (Nat.le_refl _) (by decide)) h9)
        refine sw_iload_n (i := 2) dX2_circle_31 rfl rfl ?_
        exact sw_ireturnE (by rw [← he]; rfl) rfl dX2_circle_32
    | succ f ih =>
      intro n hn he
      have hq := alg_lt ok ha n
      refine sw_iload_n (i := 3) dX2_circle_8 rfl rfl ?_
      refine sw_iload_n (i := 1) dX2_circle_9 rfl rfl ?_
      refine sw_ic_eq (tgt := 31) dX2_circle_10 rfl (fun h10 => ?_) (fun h10 => ?_)
      ·
        refine sw_iload_n (i := 2) dX2_circle_31 rfl rfl ?_
        refine sw_ireturnE ?_ rfl dX2_circle_32
        rw [← he, crcG_s, if_pos ((nI_eq (Nat.lt_trans hq (by decide)) (Nat.lt_trans ha (by decide))).mp h10)]
      ·
        refine sw_iload_n (i := 2) dX2_circle_13 rfl rfl ?_
        refine sw_bi 8 dX2_circle_14 (by decide +kernel) ?_
        refine sw_ins (pc2 := 16) rfl rfl ?_
        refine sw_ic_ge (tgt := 31) dX2_circle_16 rfl (fun h9 => absurd h9 (nI_ge (by omega) (by decide))) (fun _ => ?_)
        refine sw_iinc (i := 2) (v := nI (n + 1)) dX2_circle_19 rfl (nI_1 _) (Nat.le_of_ble_eq_true rfl) rfl ?_
        refine sw_lo (lo2 := [some (.ref b), some (.int _), some (.int _), some (.int _)]) rfl ?_
        refine sw_aload_n (i := 0) dX2_circle_22 rfl rfl ?_
        refine sw_iload_n (i := 3) dX2_circle_23 rfl rfl ?_
        refine px_Vx mv_X2_77 (P_X2_leadsTo (a := (alg (cV d b) a n)) hb ok (by omega)) rfl rfl (Nat.le_of_ble_eq_true rfl) (Nat.le_of_ble_eq_true rfl) (kO_B hb) (Nat.le_of_ble_eq_true rfl) dX2_circle_24 ?_
        refine sw_istore_n (i := 3) dX2_circle_27 rfl (Nat.le_of_ble_eq_true rfl) rfl ?_
        refine sw_lo (lo2 := [some (.ref b), some (.int _), some (.int _), some (.int _)]) rfl ?_
        refine sw_goto (tgt := 8) dX2_circle_28 rfl ?_
        refine ih (n + 1) (by omega) ?_
        rw [← he, crcG_s, if_neg (fun e9 => h10 (by rw [e9]))]
  refine sw_ic 1 dX2_circle_0 ?_
  refine sw_istore_n (i := 2) dX2_circle_1 rfl (Nat.le_of_ble_eq_true rfl) rfl ?_
  refine sw_lo (lo2 := [some (.ref b), some (.int _), some (.int _), none]) rfl ?_
  refine sw_aload_n (i := 0) dX2_circle_2 rfl rfl ?_
  refine sw_iload_n (i := 1) dX2_circle_3 rfl rfl ?_
  refine px_Vx mv_X2_77 (P_X2_leadsTo (a := a) hb ok (by omega)) rfl rfl (Nat.le_of_ble_eq_true rfl) (Nat.le_of_ble_eq_true rfl) (kO_B hb) (Nat.le_of_ble_eq_true rfl) dX2_circle_4 ?_
  refine sw_istore_n (i := 3) dX2_circle_7 rfl (Nat.le_of_ble_eq_true rfl) rfl ?_
  refine sw_lo (lo2 := [some (.ref b), some (.int _), some (.int _), some (.int _)]) rfl ?_
  exact L 7 1 rfl rfl
set_option maxRecDepth 100000 in
set_option maxHeartbeats 4000000 in
theorem A_X2_sumOf {d : Nat → Nat → Int32} {r : Nat → Nat → Option Nat} {J : Nat → Nat → Int64} {b s a : Nat} (hb : isB b) (ok : okMany (cV d b)) (hs : s < 4) : OP kX2_sumOf yX2_sumOf 2 [.ref b, .int (nI s), .int (nI a)] d r J (some (.int (smt (cV d b) (fun q => decide (cV d b (51 + (q * 4 + s)) = nI a)) (nv (cV d b) 1)))) d r J := by
  refine op_of pl_X2_sumOf (Nat.le_of_ble_eq_true rfl) ?_
  have okm := ok.2
  have L : ∀ i, i ≤ (nv (cV d b) 1) → SW yX2_sumOf cX2_sumOf 5 (some .int) [] 2 none 5 [some (.ref b), some (.int (nI s)), some (.int (nI a)), some (.int (smt (cV d b) (fun q => decide (cV d b (51 + (q * 4 + s)) = nI a)) i)), some (.int (nI i))] [] 65 (W0 d r J) 0 0 (.inl (some (.int (smt (cV d b) (fun q => decide (cV d b (51 + (q * 4 + s)) = nI a)) (nv (cV d b) 1))))) 65 (W0 d r J) := by
    refine am_loop (nv (cV d b) 1) ?_ ?_
    ·
      refine sw_iload (i := 4) dX2_sumOf_5 rfl ?_
      refine sw_aload_n (i := 0) dX2_sumOf_7 rfl rfl ?_
      refine sx_getIE (nI (nv (cV d b) 1)) ((cV_many d b).trans ok.1) f_X2_37 (kt_lt hb.1) (kF_B hb (j := 5) (by decide) (by decide)) dX2_sumOf_8 ?_
      refine sw_ic_ge (tgt := 41) dX2_sumOf_11 rfl (fun _ => ?_) (fun h9 => absurd (nI_le (Nat.le_refl _) (by omega)) h9)
      refine sw_iload_n (i := 3) dX2_sumOf_41 rfl rfl ?_
      exact sw_ireturn rfl dX2_sumOf_42
    · intro i hi ih
      refine sw_iload (i := 4) dX2_sumOf_5 rfl ?_
      refine sw_aload_n (i := 0) dX2_sumOf_7 rfl rfl ?_
      refine sx_getIE (nI (nv (cV d b) 1)) ((cV_many d b).trans ok.1) f_X2_37 (kt_lt hb.1) (kF_B hb (j := 5) (by decide) (by decide)) dX2_sumOf_8 ?_
      refine sw_ic_ge (tgt := 41) dX2_sumOf_11 rfl (fun h9 => absurd h9 (nI_ge hi (by omega))) (fun _ => ?_)
      refine sw_aload_n (i := 0) dX2_sumOf_14 rfl rfl ?_
      refine sw_iload (i := 4) dX2_sumOf_15 rfl ?_
      refine sw_iload_n (i := 1) dX2_sumOf_17 rfl rfl ?_
      refine sw_ins (pc2 := 18) rfl rfl ?_
      refine px_Vx mv_X2_84 (A_X2_partOf (a := i) (c := s) hb ok (by omega) (by omega)) rfl rfl (Nat.le_of_ble_eq_true rfl) (Nat.le_of_ble_eq_true rfl) (kO_B hb) (Nat.le_of_ble_eq_true rfl) dX2_sumOf_18 ?_
      refine sw_iload_n (i := 2) dX2_sumOf_21 rfl rfl ?_
      refine sw_ic_ne (tgt := 35) dX2_sumOf_22 rfl (fun h22 => ?_) (fun h22 => ?_)
      ·
        refine sw_iinc (i := 4) (v := nI (i + 1)) dX2_sumOf_35 rfl (nI_1 _) (Nat.le_of_ble_eq_true rfl) rfl ?_
        refine sw_lo (lo2 := [some (.ref b), some (.int _), some (.int _), some (.int _), some (.int _)]) rfl ?_
        refine sw_goto (tgt := 5) dX2_sumOf_38 rfl ?_
        first | (rw [smt_s, if_pos (decide_eq_true h22)] at ih; exact ih) | (rw [smt_s, if_neg (by simpa using h22)] at ih; exact ih)
      ·
        refine sw_iload_n (i := 3) dX2_sumOf_25 rfl rfl ?_
        refine sw_aload_n (i := 0) dX2_sumOf_26 rfl rfl ?_
        refine sw_iload (i := 4) dX2_sumOf_27 rfl ?_
        refine sw_ins (pc2 := 29) rfl rfl ?_
        refine sw_ic 2 dX2_sumOf_29 ?_
        refine px_Vx mv_X2_84 (A_X2_partOf (a := i) (c := 2) hb ok (by omega) (by omega)) rfl rfl (Nat.le_of_ble_eq_true rfl) (Nat.le_of_ble_eq_true rfl) (kO_B hb) (Nat.le_of_ble_eq_true rfl) dX2_sumOf_30 ?_
        refine sw_iadd dX2_sumOf_33 ?_
        refine sw_istore_n (i := 3) dX2_sumOf_34 rfl (Nat.le_of_ble_eq_true rfl) rfl ?_
        refine sw_lo (lo2 := [some (.ref b), some (.int _), some (.int _), some (.int _), some (.int _)]) rfl ?_
        refine sw_iinc (i := 4) (v := nI (i + 1)) dX2_sumOf_35 rfl (nI_1 _) (Nat.le_of_ble_eq_true rfl) rfl ?_
        refine sw_lo (lo2 := [some (.ref b), some (.int _), some (.int _), some (.int _), some (.int _)]) rfl ?_
        refine sw_goto (tgt := 5) dX2_sumOf_38 rfl ?_
        first | (rw [smt_s, if_pos (decide_eq_true h22)] at ih; exact ih) | (rw [smt_s, if_neg (by simpa using h22)] at ih; exact ih)
  refine sw_ic 0 dX2_sumOf_0 ?_
  refine sw_istore_n (i := 3) dX2_sumOf_1 rfl (Nat.le_of_ble_eq_true rfl) rfl ?_
  refine sw_lo (lo2 := [some (.ref b), some (.int _), some (.int _), some (.int _), none]) rfl ?_
  refine sw_ic 0 dX2_sumOf_2 ?_
  refine sw_istore (i := 4) dX2_sumOf_3 (Nat.le_of_ble_eq_true rfl) rfl ?_
  refine sw_lo (lo2 := [some (.ref b), some (.int _), some (.int _), some (.int _), some (.int _)]) rfl ?_
  exact L 0 (Nat.zero_le _)
set_option maxRecDepth 100000 in
set_option maxHeartbeats 4000000 in
theorem A_X2_hand {d : Nat → Nat → Int32} {r : Nat → Nat → Option Nat} {J : Nat → Nat → Int64} {b f t c : Nat} {x : Int32} (hb : isB b) (hf : f < 8) (ht : t < 8) (hc : c < 4) : ∃ d1, OP kX2_hand yX2_hand 1 [.ref b, .int (nI f), .int (nI t), .int (nI c), .int x] d r J none d1 r J ∧ cV d1 b = hnd (cV d b) f t c x ∧ ∀ q, q ≠ b + 1 → d1 q = d q := by
  refine ⟨d2 (d2 d (b + 1) (f * 4 + c) (d (b + 1) (f * 4 + c) - x)) (b + 1) (t * 4 + c) ((d2 d (b + 1) (f * 4 + c) (d (b + 1) (f * 4 + c) - x)) (b + 1) (t * 4 + c) + x), op_of pl_X2_hand (Nat.le_of_ble_eq_true rfl) ?_, ?_, ?_⟩
  ·
    refine sw_iload_n (i := 1) dX2_hand_0 rfl rfl ?_
    refine px_Sx ms_X2_59 (A1_X2_isIslander (a := f) (by omega)) rfl rfl (Nat.le_of_ble_eq_true rfl) (Nat.le_of_ble_eq_true rfl) (Nat.le_of_ble_eq_true rfl) dX2_hand_1 ?_
    refine sw_if_eq (tgt := 51) dX2_hand_4 rfl (fun h9 => absurd h9 (by decide)) (fun _ => ?_)
    refine sw_iload_n (i := 2) dX2_hand_7 rfl rfl ?_
    refine px_Sx ms_X2_59 (A1_X2_isIslander (a := t) (by omega)) rfl rfl (Nat.le_of_ble_eq_true rfl) (Nat.le_of_ble_eq_true rfl) (Nat.le_of_ble_eq_true rfl) dX2_hand_8 ?_
    refine sw_if_eq (tgt := 51) dX2_hand_11 rfl (fun h9 => absurd h9 (by decide)) (fun _ => ?_)
    refine sw_iload_n (i := 3) dX2_hand_14 rfl rfl ?_
    refine sw_ins (pc2 := 15) rfl rfl ?_
    refine px_Sx ms_X2_63 (A1_X2_isColour (a := c) (by omega)) rfl rfl (Nat.le_of_ble_eq_true rfl) (Nat.le_of_ble_eq_true rfl) (Nat.le_of_ble_eq_true rfl) dX2_hand_15 ?_
    refine sw_if_eq (tgt := 51) dX2_hand_18 rfl (fun h9 => absurd h9 (by decide)) (fun _ => ?_)
    refine sw_aload_n (i := 0) dX2_hand_21 rfl rfl ?_
    refine sx_getR (q := b + 1) f_X2_9 (kt_lt hb.1) (kR_B hb (j := 0) (by decide)) dX2_hand_22 ?_
    refine sw_iload_n (i := 1) dX2_hand_25 rfl rfl ?_
    refine sw_ic 4 dX2_hand_26 ?_
    refine sw_imul dX2_hand_27 ?_
    refine sw_iload_n (i := 3) dX2_hand_28 rfl rfl ?_
    refine sw_ins (pc2 := 29) rfl rfl ?_
    refine sw_iadd dX2_hand_29 ?_
    refine sw_dup2 dX2_hand_30 rfl rfl ?_
    refine sx_iald ((f * 4) + c) hb.2.1 (by simp only [nI_add, pk_mul]) (by omega) dX2_hand_31 ?_
    refine sw_iload (i := 4) dX2_hand_32 rfl ?_
    refine sw_isub dX2_hand_34 ?_
    refine sx_iast ((f * 4) + c) hb.2.1 (by simp only [nI_add, pk_mul]) (by omega) dX2_hand_35 ?_
    refine sw_aload_n (i := 0) dX2_hand_36 rfl rfl ?_
    refine sx_getR (q := b + 1) f_X2_9 (kt_lt hb.1) (kR_B hb (j := 0) (by decide)) dX2_hand_37 ?_
    refine sw_ins (pc2 := 40) rfl rfl ?_
    refine sw_iload_n (i := 2) dX2_hand_40 rfl rfl ?_
    refine sw_ic 4 dX2_hand_41 ?_
    refine sw_imul dX2_hand_42 ?_
    refine sw_iload_n (i := 3) dX2_hand_43 rfl rfl ?_
    refine sw_iadd dX2_hand_44 ?_
    refine sw_dup2 dX2_hand_45 rfl rfl ?_
    refine sx_iald ((t * 4) + c) hb.2.1 (by simp only [nI_add, pk_mul]) (by omega) dX2_hand_46 ?_
    refine sw_iload (i := 4) dX2_hand_47 rfl ?_
    refine sw_ins (pc2 := 49) rfl rfl ?_
    refine sw_iadd dX2_hand_49 ?_
    refine sx_iast ((t * 4) + c) hb.2.1 (by simp only [nI_add, pk_mul]) (by omega) dX2_hand_50 ?_
    exact sw_return rfl dX2_hand_51
  · rw [cV_d2caps _ b _ (by omega), cV_d2caps d b _ (by omega)]
    unfold hnd
    rw [cV_caps (d2 d (b + 1) (f * 4 + c) (d (b + 1) (f * 4 + c) - x)) b (x := t * 4 + c) (by omega) rfl, cV_d2caps d b _ (by omega), cV_caps d b (x := f * 4 + c) (by omega) rfl]
  · intro q hq
    rw [d2_off _ _ hq, d2_off _ _ hq]
set_option maxRecDepth 100000 in
set_option maxHeartbeats 4000000 in
theorem A_X2_swapPaths {d : Nat → Nat → Int32} {r : Nat → Nat → Option Nat} {J : Nat → Nat → Int64} {b i o : Nat} (hb : isB b) (hi : i < 8) (ho : o < 8) : ∃ d1, OP kX2_swapPaths yX2_swapPaths 1 [.ref b, .int (nI i), .int (nI o)] d r J none d1 r J ∧ cV d1 b = swp (cV d b) i o ∧ ∀ q, q ≠ b + 4 → d1 q = d q := by
  refine ⟨d2 (d2 d (b + 4) i (d (b + 4) o)) (b + 4) o (d (b + 4) i), op_of pl_X2_swapPaths (Nat.le_of_ble_eq_true rfl) ?_, ?_, ?_⟩
  ·
    refine sw_iload_n (i := 1) dX2_swapPaths_0 rfl rfl ?_
    refine px_Sx ms_X2_59 (A1_X2_isIslander (a := i) (by omega)) rfl rfl (Nat.le_of_ble_eq_true rfl) (Nat.le_of_ble_eq_true rfl) (Nat.le_of_ble_eq_true rfl) dX2_swapPaths_1 ?_
    refine sw_if_eq (tgt := 40) dX2_swapPaths_4 rfl (fun h9 => absurd h9 (by decide)) (fun _ => ?_)
    refine sw_iload_n (i := 2) dX2_swapPaths_7 rfl rfl ?_
    refine px_Sx ms_X2_59 (A1_X2_isIslander (a := o) (by omega)) rfl rfl (Nat.le_of_ble_eq_true rfl) (Nat.le_of_ble_eq_true rfl) (Nat.le_of_ble_eq_true rfl) dX2_swapPaths_8 ?_
    refine sw_if_eq (tgt := 40) dX2_swapPaths_11 rfl (fun h9 => absurd h9 (by decide)) (fun _ => ?_)
    refine sw_aload_n (i := 0) dX2_swapPaths_14 rfl rfl ?_
    refine sw_ins (pc2 := 15) rfl rfl ?_
    refine sx_getR (q := b + 4) f_X2_21 (kt_lt hb.1) (kR_B hb (j := 3) (by decide)) dX2_swapPaths_15 ?_
    refine sw_iload_n (i := 1) dX2_swapPaths_18 rfl rfl ?_
    refine sx_iald (i) hb.2.2.2.2.1 rfl (by omega) dX2_swapPaths_19 ?_
    refine sw_istore_n (i := 3) dX2_swapPaths_20 rfl (Nat.le_of_ble_eq_true rfl) rfl ?_
    refine sw_lo (lo2 := [some (.ref b), some (.int _), some (.int _), some (.int _)]) rfl ?_
    refine sw_aload_n (i := 0) dX2_swapPaths_21 rfl rfl ?_
    refine sx_getR (q := b + 4) f_X2_21 (kt_lt hb.1) (kR_B hb (j := 3) (by decide)) dX2_swapPaths_22 ?_
    refine sw_iload_n (i := 1) dX2_swapPaths_25 rfl rfl ?_
    refine sw_aload_n (i := 0) dX2_swapPaths_26 rfl rfl ?_
    refine sw_ins (pc2 := 27) rfl rfl ?_
    refine sx_getR (q := b + 4) f_X2_21 (kt_lt hb.1) (kR_B hb (j := 3) (by decide)) dX2_swapPaths_27 ?_
    refine sw_iload_n (i := 2) dX2_swapPaths_30 rfl rfl ?_
    refine sx_iald (o) hb.2.2.2.2.1 rfl (by omega) dX2_swapPaths_31 ?_
    refine sx_iast (i) hb.2.2.2.2.1 rfl (by omega) dX2_swapPaths_32 ?_
    refine sw_aload_n (i := 0) dX2_swapPaths_33 rfl rfl ?_
    refine sx_getR (q := b + 4) f_X2_21 (kt_lt hb.1) (kR_B hb (j := 3) (by decide)) dX2_swapPaths_34 ?_
    refine sw_iload_n (i := 2) dX2_swapPaths_37 rfl rfl ?_
    refine sw_iload_n (i := 3) dX2_swapPaths_38 rfl rfl ?_
    refine sw_ins (pc2 := 39) rfl rfl ?_
    refine sx_iast (o) hb.2.2.2.2.1 rfl (by omega) dX2_swapPaths_39 ?_
    exact sw_return rfl dX2_swapPaths_40
  · rw [cV_d2path _ b _ ho, cV_d2path d b _ hi]
    unfold swp
    rw [cV_path d b hi rfl, cV_path d b ho rfl]
  · intro q hq
    rw [d2_off _ _ hq, d2_off _ _ hq]
set_option maxRecDepth 100000 in
set_option maxHeartbeats 4000000 in
theorem A_X2_makePromise_full {d : Nat → Nat → Int32} {r : Nat → Nat → Option Nat} {J : Nat → Nat → Int64} {b : Nat} {f t s dd : Int32} (hb : isB b) (ok : okMany (cV d b)) (hm : 8 ≤ nv (cV d b) 1) : ∃ d1, OP kX2_makePromise yX2_makePromise 0 [.ref b, .int f, .int t, .int s, .int dd] d r J (some (.int (-1))) d1 r J ∧ cV d1 b = rfz (cV d b) ∧ ∀ q, q ≠ b → d1 q = d q := by
  have okm := ok.2
  refine ⟨d2 d b 11 (d b 11 + nI 1), op_of pl_X2_makePromise (Nat.le_of_ble_eq_true rfl) ?_, ?_, ?_⟩
  ·
    refine sw_aload_n (i := 0) dX2_makePromise_0 rfl rfl ?_
    refine sx_getIE (nI (nv (cV d b) 1)) ((cV_many d b).trans ok.1) f_X2_37 (kt_lt hb.1) (kF_B hb (j := 5) (by decide) (by decide)) dX2_makePromise_1 ?_
    refine sw_bi 8 dX2_makePromise_4 (by decide +kernel) ?_
    refine sw_ic_lt (tgt := 21) dX2_makePromise_6 rfl (fun h9 => absurd h9 (nI_nlt hm (by omega))) (fun _ => ?_)
    refine sw_aload_n (i := 0) dX2_makePromise_9 rfl rfl ?_
    refine sw_dup dX2_makePromise_10 rfl ?_
    refine sx_getI f_X2_56 (kt_lt hb.1) (kF_B hb (j := 11) (by decide) (by decide)) dX2_makePromise_11 ?_
    refine sw_ins (pc2 := 14) rfl rfl ?_
    refine sw_ic 1 dX2_makePromise_14 ?_
    refine sw_iadd dX2_makePromise_15 ?_
    refine sx_putI fp_X2_56 (kt_lt hb.1) (kF_B hb (j := 11) (by decide) (by decide)) dX2_makePromise_16 ?_
    refine sw_im1 dX2_makePromise_19 ?_
    exact sw_ireturn rfl dX2_makePromise_20
  · rw [cV_d2f d b _ (by decide) (by decide)]
    rfl
  · intro q hq
    rw [d2_off _ _ hq]
set_option maxRecDepth 100000 in
set_option maxHeartbeats 4000000 in
theorem A_X2_makePromise {d : Nat → Nat → Int32} {r : Nat → Nat → Option Nat} {J : Nat → Nat → Int64} {b : Nat} {f t s dd : Int32} (hb : isB b) (ok : okMany (cV d b)) (hm : nv (cV d b) 1 < 8) : ∃ d1, OP kX2_makePromise yX2_makePromise 0 [.ref b, .int f, .int t, .int s, .int dd] d r J (some (.int (nI (nv (cV d b) 1)))) d1 r J ∧ cV d1 b = mkp (cV d b) f t s dd ∧ ∀ q, q ≠ b → q ≠ b + 5 → d1 q = d q := by
  have okm := ok.2
  have n5 : b ≠ b + 5 := by omega
  refine ⟨(d2 (d2 (d2 (d2 (d2 d (b + 5) (nv (cV d b) 1 * 4 + 0) f) (b + 5) (nv (cV d b) 1 * 4 + 1) t) (b + 5) (nv (cV d b) 1 * 4 + 2) s) (b + 5) (nv (cV d b) 1 * 4 + 3) (d b 6 + dd)) b 5 (nI (nv (cV d b) 1) + nI 1)), op_of pl_X2_makePromise (Nat.le_of_ble_eq_true rfl) ?_, ?_, ?_⟩
  ·
    refine sw_aload_n (i := 0) dX2_makePromise_0 rfl rfl ?_
    refine sx_getIE (nI (nv (cV d b) 1)) ((cV_many d b).trans ok.1) f_X2_37 (kt_lt hb.1) (kF_B hb (j := 5) (by decide) (by decide)) dX2_makePromise_1 ?_
    refine sw_bi 8 dX2_makePromise_4 (by decide +kernel) ?_
    refine sw_ic_lt (tgt := 21) dX2_makePromise_6 rfl (fun _ => ?_) (fun h9 => absurd (nI_lt hm (by omega)) h9)
    refine sw_aload_n (i := 0) dX2_makePromise_21 rfl rfl ?_
    refine sx_getIE (nI (nv (cV d b) 1)) ((cV_many d b).trans ok.1) f_X2_37 (kt_lt hb.1) (kF_B hb (j := 5) (by decide) (by decide)) dX2_makePromise_22 ?_
    refine sw_ic 4 dX2_makePromise_25 ?_
    refine sw_ins (pc2 := 26) rfl rfl ?_
    refine sw_imul dX2_makePromise_26 ?_
    refine sw_istore (i := 5) dX2_makePromise_27 (Nat.le_of_ble_eq_true rfl) rfl ?_
    refine sw_lo (lo2 := [some (.ref b), some (.int _), some (.int _), some (.int _), some (.int _), some (.int _)]) rfl ?_
    refine sw_aload_n (i := 0) dX2_makePromise_29 rfl rfl ?_
    refine sx_getR (q := b + 5) f_X2_24 (kt_lt hb.1) (kR_B hb (j := 4) (by decide)) dX2_makePromise_30 ?_
    refine sw_iload (i := 5) dX2_makePromise_33 rfl ?_
    refine sw_ic 0 dX2_makePromise_35 ?_
    refine sw_iadd dX2_makePromise_36 ?_
    refine sw_iload_n (i := 1) dX2_makePromise_37 rfl rfl ?_
    refine sw_ins (pc2 := 38) rfl rfl ?_
    refine sx_iast (((nv (cV d b) 1) * 4) + 0) hb.2.2.2.2.2 (by simp only [nI_add, pk_mul]) (by omega) dX2_makePromise_38 ?_
    refine sw_aload_n (i := 0) dX2_makePromise_39 rfl rfl ?_
    refine sx_getR (q := b + 5) f_X2_24 (kt_lt hb.1) (kR_B hb (j := 4) (by decide)) dX2_makePromise_40 ?_
    refine sw_iload (i := 5) dX2_makePromise_43 rfl ?_
    refine sw_ic 1 dX2_makePromise_45 ?_
    refine sw_iadd dX2_makePromise_46 ?_
    refine sw_iload_n (i := 2) dX2_makePromise_47 rfl rfl ?_
    refine sx_iast (((nv (cV d b) 1) * 4) + 1) hb.2.2.2.2.2 (by simp only [nI_add, pk_mul]) (by omega) dX2_makePromise_48 ?_
    refine sw_ins (pc2 := 49) rfl rfl ?_
    refine sw_aload_n (i := 0) dX2_makePromise_49 rfl rfl ?_
    refine sx_getR (q := b + 5) f_X2_24 (kt_lt hb.1) (kR_B hb (j := 4) (by decide)) dX2_makePromise_50 ?_
    refine sw_iload (i := 5) dX2_makePromise_53 rfl ?_
    refine sw_ic 2 dX2_makePromise_55 ?_
    refine sw_iadd dX2_makePromise_56 ?_
    refine sw_iload_n (i := 3) dX2_makePromise_57 rfl rfl ?_
    refine sx_iast (((nv (cV d b) 1) * 4) + 2) hb.2.2.2.2.2 (by simp only [nI_add, pk_mul]) (by omega) dX2_makePromise_58 ?_
    refine sw_aload_n (i := 0) dX2_makePromise_59 rfl rfl ?_
    refine sw_ins (pc2 := 60) rfl rfl ?_
    refine sx_getR (q := b + 5) f_X2_24 (kt_lt hb.1) (kR_B hb (j := 4) (by decide)) dX2_makePromise_60 ?_
    refine sw_iload (i := 5) dX2_makePromise_63 rfl ?_
    refine sw_ic 3 dX2_makePromise_65 ?_
    refine sw_iadd dX2_makePromise_66 ?_
    refine sw_aload_n (i := 0) dX2_makePromise_67 rfl rfl ?_
    refine sx_getIE (d b 6) (by rw [d2_off _ _ n5, d2_off _ _ n5, d2_off _ _ n5]) f_X2_41 (kt_lt hb.1) (kF_B hb (j := 6) (by decide) (by decide)) dX2_makePromise_68 ?_
    refine sw_iload (i := 4) dX2_makePromise_71 rfl ?_
    refine sw_iadd dX2_makePromise_73 ?_
    refine sw_ins (pc2 := 74) rfl rfl ?_
    refine sx_iast (((nv (cV d b) 1) * 4) + 3) hb.2.2.2.2.2 (by simp only [nI_add, pk_mul]) (by omega) dX2_makePromise_74 ?_
    refine sw_aload_n (i := 0) dX2_makePromise_75 rfl rfl ?_
    refine sw_dup dX2_makePromise_76 rfl ?_
    refine sx_getIE (nI (nv (cV d b) 1)) (by rw [d2_off _ _ n5, d2_off _ _ n5, d2_off _ _ n5, d2_off _ _ n5]; exact (cV_many d b).trans ok.1) f_X2_37 (kt_lt hb.1) (kF_B hb (j := 5) (by decide) (by decide)) dX2_makePromise_77 ?_
    refine sw_ic 1 dX2_makePromise_80 ?_
    refine sw_iadd dX2_makePromise_81 ?_
    refine sx_putI fp_X2_37 (kt_lt hb.1) (kF_B hb (j := 5) (by decide) (by decide)) dX2_makePromise_82 ?_
    refine sw_aload_n (i := 0) dX2_makePromise_85 rfl rfl ?_
    refine sw_ins (pc2 := 86) rfl rfl ?_
    refine sx_getIE (nI (nv (cV d b) 1 + 1)) (by rw [d2_eq]; exact nI_1 _) f_X2_37 (kt_lt hb.1) (kF_B hb (j := 5) (by decide) (by decide)) dX2_makePromise_86 ?_
    refine sw_ic 1 dX2_makePromise_89 ?_
    refine sw_isub dX2_makePromise_90 ?_
    exact sw_ireturnE (nI_pred _) rfl dX2_makePromise_91
  · rw [cV_d2f _ b _ (by decide) (by decide), cV_d2part _ b _ (by omega), cV_d2part _ b _ (by omega), cV_d2part _ b _ (by omega), cV_d2part _ b _ (by omega), show nI (nv (cV d b) 1) + nI 1 = nI (nv (cV d b) 1 + 1) from nI_1 _]
    rfl
  · intro q hq hq2
    rw [d2_off _ _ hq, d2_off _ _ hq2, d2_off _ _ hq2, d2_off _ _ hq2, d2_off _ _ hq2]
