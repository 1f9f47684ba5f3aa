/-! THE MODEL, 7: readOrder (own work, written by wip/tools) -/
/-- what the model has been told by an order -/
def tld (d1 : Nat → Nat → Int32) (f : Nat → Int32) (L p : Nat) : Prop := d1 65 11 = nI (sg f L p) ∧ wfO f L p ∧ (sg f L p = 115 ∨ d1 73 0 = nI (dn (sg f L (p + 1)))) ∧ (sg f L p = 115 ∨ sg f L p = 107 ∨ d1 73 1 = nI (dn (sg f L (p + 2)))) ∧ (sg f L p ≠ 112 ∨ (d1 73 2 = smO f L p ∧ d1 73 3 = dyO f L p))
def roF (f : Nat → Int32) (L q : Nat) : Prop := q ≤ L ∧ rnS f L q ≠ 11 ∧ rnS f L q ≠ 12 ∧ (q < L → rnS f L (q + 1) = 12)
def roT (f : Nat → Int32) (L p q : Nat) : Prop := rnS f L q = 11 ∧ p < q ∧ q ≤ L ∧ ∀ i, p ≤ i → i < q → sg f L i ≠ 59
theorem rnS_st {f : Nat → Int32} {L a k : Nat} (h : rnS f L a = k) : rnS f L (a + 1) = stp k (sg f L a) (sgp f L a) := by
  show stp (rnS f L a) (sg f L a) (sgp f L a) = _
  rw [h]
theorem sgp_s (f : Nat → Int32) (L a : Nat) : sgp f L (a + 1) = sg f L a := by
  unfold sgp
  rw [if_neg (by omega)]
  rfl
theorem roF_of {f : Nat → Int32} {L q k : Nat} (hq : q ≤ L) (h : rnS f L q = k) (h1 : k ≠ 11) (h2 : k ≠ 12) (h3 : stp k (sg f L q) (sgp f L q) = 12) : roF f L q := ⟨hq, by rw [h]; exact h1, by rw [h]; exact h2, fun _ => (rnS_st h).trans h3⟩
theorem dgt_d {c : Nat} (h : 48 ≤ c ∧ c ≤ 57) : dgt c = nI (dn c) := if_pos h
theorem dgt_n {c : Nat} (h : ¬ (48 ≤ c ∧ c ≤ 57)) : dgt c = -1 := if_neg h
theorem dgt_m {c : Nat} (h : 48 ≤ c ∧ c ≤ 57) : ¬ dgt c = -1 := by
  rw [dgt_d h]
  exact nI_ne_m1 (by unfold dn; omega)
set_option maxRecDepth 100000 in
set_option maxHeartbeats 4000000 in
theorem Bs_X7_readOrder {d : Nat → Nat → Int32} {r : Nat → Nat → Option Nat} {J : Nat → Nat → Int64} {f : Nat → Int32} {L p : Nat} (h : RT d f L p) (hp : p ≤ L) (hs : rnS f L p = 0) (c0 : sg f L p = 115) : ∃ d1 q, RT d1 f L q ∧ rfr d d1 ∧ ((OP kX7_readOrder yX7_readOrder 4 [.ref 65] d r J (some (.int (nI 1))) d1 r J ∧ roT f L p q ∧ tld d1 f L p) ∨ (OP kX7_readOrder yX7_readOrder 4 [.ref 65] d r J (some (.int (nI 0))) d1 r J ∧ roF f L q)) := by
  have h60 := RT_60 h
  have hpL : p < L := sg_L (f := f) (by omega)
  have h1 : RT (d2 (d2 d 65 11 (nI 115)) 65 10 (nI (p + 1))) f L (p + 1) := RT_p (RT_l h) (by omega)
  have s1 : rnS f L (p + 1) = 11 := (rnS_st hs).trans (by rw [c0]; rfl)
  refine ⟨d2 (d2 d 65 11 (nI 115)) 65 10 (nI (p + 1)), p + 1, h1, (rfr_p (rfr_l (rfr_refl d))), Or.inl ⟨op_of pl_X7_readOrder (Nat.le_of_ble_eq_true rfl) ?_, ?_, ?_⟩⟩
  ·
    refine sw_aload_n (i := 0) dX7_readOrder_0 rfl rfl ?_
    refine sw_aload_n (i := 0) dX7_readOrder_1 rfl rfl ?_
    refine sx_getIE (nI p) h.2.2.2.1 f_X7_128 (by decide) kf_65_10 dX7_readOrder_2 ?_
    refine sw_aload_n (i := 0) dX7_readOrder_5 rfl rfl ?_
    refine sx_getIE (nI L) h.2.2.1 f_X7_125 (by decide) kf_65_6 dX7_readOrder_6 ?_
    refine sw_ic_ge (tgt := 24) dX7_readOrder_9 rfl (fun h9 => absurd h9 (nI_ge hpL (by omega))) (fun _ => ?_)
    refine sw_aload_n (i := 0) dX7_readOrder_12 rfl rfl ?_
    refine sw_ins (pc2 := 13) rfl rfl ?_
    refine sx_getR (q := 70) f_X7_23 (by decide) kr_65_5 dX7_readOrder_13 ?_
    refine sw_aload_n (i := 0) dX7_readOrder_16 rfl rfl ?_
    refine sx_getIE (nI p) h.2.2.2.1 f_X7_128 (by decide) kf_65_10 dX7_readOrder_17 ?_
    refine sx_ialdE (p) (nI 115) ((RT_x h hpL).trans (congrArg nI c0)) rfl rfl (by omega) dX7_readOrder_20 ?_
    refine sw_goto (tgt := 25) dX7_readOrder_21 rfl ?_
    refine sx_putI fp_X7_138 (by decide) kf_65_11 dX7_readOrder_25 ?_
    refine sw_aload_n (i := 0) dX7_readOrder_28 rfl rfl ?_
    refine sw_dup dX7_readOrder_29 rfl ?_
    refine sw_ins (pc2 := 30) rfl rfl ?_
    refine sx_getIE (nI p) ((d2_ne _ _ (Or.inr (by decide))).trans h.2.2.2.1) f_X7_128 (by decide) kf_65_10 dX7_readOrder_30 ?_
    refine sw_ic 1 dX7_readOrder_33 ?_
    refine sw_iadd dX7_readOrder_34 ?_
    refine sw_topE (v := nI (p + 1)) (nI_1 p) ?_
    refine sx_putI fp_X7_128 (by decide) kf_65_10 dX7_readOrder_35 ?_
    refine sw_aload_n (i := 0) dX7_readOrder_38 rfl rfl ?_
    refine sx_getIE (nI 115) rfl f_X7_138 (by decide) kf_65_11 dX7_readOrder_39 ?_
    refine sw_lookup (off := 42) (tgt := 84) dX7_readOrder_42 (by decide) (by decide) (by decide) ?_
    refine sw_ic 1 dX7_readOrder_84 ?_
    refine sw_ins (pc2 := 85) rfl rfl ?_
    exact sw_zreturnE rfl rfl rfl dX7_readOrder_85
  · exact ⟨s1, by omega, by omega, fun i i1 i2 => by rw [show i = p by omega]; omega⟩
  · exact ⟨by rw [c0]; rfl, Or.inl c0, Or.inl c0, Or.inl c0, Or.inl (by omega)⟩
set_option maxRecDepth 100000 in
set_option maxHeartbeats 4000000 in
theorem Bk_X7_readOrder {d : Nat → Nat → Int32} {r : Nat → Nat → Option Nat} {J : Nat → Nat → Int64} {f : Nat → Int32} {L p : Nat} (h : RT d f L p) (hp : p ≤ L) (hs : rnS f L p = 0) (c0 : sg f L p = 107) : ∃ d1 q, RT d1 f L q ∧ rfr d d1 ∧ ((OP kX7_readOrder yX7_readOrder 4 [.ref 65] d r J (some (.int (nI 1))) d1 r J ∧ roT f L p q ∧ tld d1 f L p) ∨ (OP kX7_readOrder yX7_readOrder 4 [.ref 65] d r J (some (.int (nI 0))) d1 r J ∧ roF f L q)) := by
  have h60 := RT_60 h
  have hpL : p < L := sg_L (f := f) (by omega)
  have h1 : RT (d2 (d2 d 65 11 (nI 107)) 65 10 (nI (p + 1))) f L (p + 1) := RT_p (RT_l h) (by omega)
  have s1 : rnS f L (p + 1) = 10 := (rnS_st hs).trans (by rw [c0]; rfl)
  by_cases c1 : 48 ≤ sg f L (p + 1) ∧ sg f L (p + 1) ≤ 48 + 7
  · have p1 : p + 1 < L := sg_L (f := f) (by omega)
    have s2 : rnS f L (p + 2) = 11 := (rnS_st s1).trans (if_pos c1)
    refine ⟨d2 (d2 (d2 (d2 d 65 11 (nI 107)) 65 10 (nI (p + 1))) 73 0 (nI (dn (sg f L (p + 1))))) 65 10 (nI (p + 2)), p + 2, (RT_p (RT_t h1) (by omega)), (rfr_p (rfr_t (rfr_p (rfr_l (rfr_refl d))))), Or.inl ⟨op_of pl_X7_readOrder (Nat.le_of_ble_eq_true rfl) ?_, ?_, ?_⟩⟩
    ·
      refine sw_aload_n (i := 0) dX7_readOrder_0 rfl rfl ?_
      refine sw_aload_n (i := 0) dX7_readOrder_1 rfl rfl ?_
      refine sx_getIE (nI p) h.2.2.2.1 f_X7_128 (by decide) kf_65_10 dX7_readOrder_2 ?_
      refine sw_aload_n (i := 0) dX7_readOrder_5 rfl rfl ?_
      refine sx_getIE (nI L) h.2.2.1 f_X7_125 (by decide) kf_65_6 dX7_readOrder_6 ?_
      refine sw_ic_ge (tgt := 24) dX7_readOrder_9 rfl (fun h9 => absurd h9 (nI_ge hpL (by omega))) (fun _ => ?_)
      refine sw_aload_n (i := 0) dX7_readOrder_12 rfl rfl ?_
      refine sw_ins (pc2 := 13) rfl rfl ?_
      refine sx_getR (q := 70) f_X7_23 (by decide) kr_65_5 dX7_readOrder_13 ?_
      refine sw_aload_n (i := 0) dX7_readOrder_16 rfl rfl ?_
      refine sx_getIE (nI p) h.2.2.2.1 f_X7_128 (by decide) kf_65_10 dX7_readOrder_17 ?_
      refine sx_ialdE (p) (nI 107) ((RT_x h hpL).trans (congrArg nI c0)) rfl rfl (by omega) dX7_readOrder_20 ?_
      refine sw_goto (tgt := 25) dX7_readOrder_21 rfl ?_
      refine sx_putI fp_X7_138 (by decide) kf_65_11 dX7_readOrder_25 ?_
      refine sw_aload_n (i := 0) dX7_readOrder_28 rfl rfl ?_
      refine sw_dup dX7_readOrder_29 rfl ?_
      refine sw_ins (pc2 := 30) rfl rfl ?_
      refine sx_getIE (nI p) ((d2_ne _ _ (Or.inr (by decide))).trans h.2.2.2.1) f_X7_128 (by decide) kf_65_10 dX7_readOrder_30 ?_
      refine sw_ic 1 dX7_readOrder_33 ?_
      refine sw_iadd dX7_readOrder_34 ?_
      refine sw_topE (v := nI (p + 1)) (nI_1 p) ?_
      refine sx_putI fp_X7_128 (by decide) kf_65_10 dX7_readOrder_35 ?_
      refine sw_aload_n (i := 0) dX7_readOrder_38 rfl rfl ?_
      refine sx_getIE (nI 107) rfl f_X7_138 (by decide) kf_65_11 dX7_readOrder_39 ?_
      refine sw_lookup (off := 128) (tgt := 170) dX7_readOrder_42 (by decide) (by decide) (by decide) ?_
      refine sw_aload_n (i := 0) dX7_readOrder_170 rfl rfl ?_
      refine sw_ins (pc2 := 171) rfl rfl ?_
      refine sw_ic 0 dX7_readOrder_171 ?_
      refine sw_bi 7 dX7_readOrder_172 (by decide +kernel) ?_
      refine px_Vx mv_X7_135 (A1_X7_readDigit h1 (w := 0) (m := 7) (by decide) (by decide) c1) rfl rfl (Nat.le_of_ble_eq_true rfl) (Nat.le_of_ble_eq_true rfl) ko_65 (Nat.le_of_ble_eq_true rfl) dX7_readOrder_174 ?_
      exact sw_zreturnE rfl rfl rfl dX7_readOrder_177
    · refine ⟨s2, by omega, by omega, fun i i1 i2 => ?_⟩
      have hi : i = p ∨ i = p + 1 := by omega
      rcases hi with hi | hi <;> rw [hi] <;> omega
    · exact ⟨by rw [c0]; rfl, Or.inr (Or.inr (Or.inr ⟨c0, c1⟩)), Or.inr rfl, Or.inr (Or.inl c0), Or.inl (by omega)⟩
  ·
    refine ⟨d2 (d2 (d2 (d2 d 65 11 (nI 107)) 65 10 (nI (p + 1))) 73 0 (nI 0)) 65 10 (nI (p + 1)), p + 1, (RT_p (RT_t h1) (by omega)), (rfr_p (rfr_t (rfr_p (rfr_l (rfr_refl d))))), Or.inr ⟨op_of pl_X7_readOrder (Nat.le_of_ble_eq_true rfl) ?_, ?_⟩⟩
    ·
      refine sw_aload_n (i := 0) dX7_readOrder_0 rfl rfl ?_
      refine sw_aload_n (i := 0) dX7_readOrder_1 rfl rfl ?_
      refine sx_getIE (nI p) h.2.2.2.1 f_X7_128 (by decide) kf_65_10 dX7_readOrder_2 ?_
      refine sw_aload_n (i := 0) dX7_readOrder_5 rfl rfl ?_
      refine sx_getIE (nI L) h.2.2.1 f_X7_125 (by decide) kf_65_6 dX7_readOrder_6 ?_
      refine sw_ic_ge (tgt := 24) dX7_readOrder_9 rfl (fun h9 => absurd h9 (nI_ge hpL (by omega))) (fun _ => ?_)
      refine sw_aload_n (i := 0) dX7_readOrder_12 rfl rfl ?_
      refine sw_ins (pc2 := 13) rfl rfl ?_
      refine sx_getR (q := 70) f_X7_23 (by decide) kr_65_5 dX7_readOrder_13 ?_
      refine sw_aload_n (i := 0) dX7_readOrder_16 rfl rfl ?_
      refine sx_getIE (nI p) h.2.2.2.1 f_X7_128 (by decide) kf_65_10 dX7_readOrder_17 ?_
      refine sx_ialdE (p) (nI 107) ((RT_x h hpL).trans (congrArg nI c0)) rfl rfl (by omega) dX7_readOrder_20 ?_
      refine sw_goto (tgt := 25) dX7_readOrder_21 rfl ?_
      refine sx_putI fp_X7_138 (by decide) kf_65_11 dX7_readOrder_25 ?_
      refine sw_aload_n (i := 0) dX7_readOrder_28 rfl rfl ?_
      refine sw_dup dX7_readOrder_29 rfl ?_
      refine sw_ins (pc2 := 30) rfl rfl ?_
      refine sx_getIE (nI p) ((d2_ne _ _ (Or.inr (by decide))).trans h.2.2.2.1) f_X7_128 (by decide) kf_65_10 dX7_readOrder_30 ?_
      refine sw_ic 1 dX7_readOrder_33 ?_
      refine sw_iadd dX7_readOrder_34 ?_
      refine sw_topE (v := nI (p + 1)) (nI_1 p) ?_
      refine sx_putI fp_X7_128 (by decide) kf_65_10 dX7_readOrder_35 ?_
      refine sw_aload_n (i := 0) dX7_readOrder_38 rfl rfl ?_
      refine sx_getIE (nI 107) rfl f_X7_138 (by decide) kf_65_11 dX7_readOrder_39 ?_
      refine sw_lookup (off := 128) (tgt := 170) dX7_readOrder_42 (by decide) (by decide) (by decide) ?_
      refine sw_aload_n (i := 0) dX7_readOrder_170 rfl rfl ?_
      refine sw_ins (pc2 := 171) rfl rfl ?_
      refine sw_ic 0 dX7_readOrder_171 ?_
      refine sw_bi 7 dX7_readOrder_172 (by decide +kernel) ?_
      refine px_Vx mv_X7_135 (A0_X7_readDigit h1 (w := 0) (m := 7) (by decide) (by decide) c1) rfl rfl (Nat.le_of_ble_eq_true rfl) (Nat.le_of_ble_eq_true rfl) ko_65 (Nat.le_of_ble_eq_true rfl) dX7_readOrder_174 ?_
      exact sw_zreturnE rfl rfl rfl dX7_readOrder_177
    · exact roF_of (by omega) s1 (by decide) (by decide) (if_neg c1)
set_option maxRecDepth 100000 in
set_option maxHeartbeats 4000000 in
theorem Bx_X7_readOrder {d : Nat → Nat → Int32} {r : Nat → Nat → Option Nat} {J : Nat → Nat → Int64} {f : Nat → Int32} {L p : Nat} (h : RT d f L p) (hp : p ≤ L) (hs : rnS f L p = 0) (c0 : sg f L p = 120) : ∃ d1 q, RT d1 f L q ∧ rfr d d1 ∧ ((OP kX7_readOrder yX7_readOrder 4 [.ref 65] d r J (some (.int (nI 1))) d1 r J ∧ roT f L p q ∧ tld d1 f L p) ∨ (OP kX7_readOrder yX7_readOrder 4 [.ref 65] d r J (some (.int (nI 0))) d1 r J ∧ roF f L q)) := by
  have h60 := RT_60 h
  have hpL : p < L := sg_L (f := f) (by omega)
  have h1 : RT (d2 (d2 d 65 11 (nI 120)) 65 10 (nI (p + 1))) f L (p + 1) := RT_p (RT_l h) (by omega)
  have s1 : rnS f L (p + 1) = 1 := (rnS_st hs).trans (by rw [c0]; rfl)
  by_cases c1 : 48 ≤ sg f L (p + 1) ∧ sg f L (p + 1) ≤ 48 + 7
  · have p1 : p + 1 < L := sg_L (f := f) (by omega)
    have s2 : rnS f L (p + 2) = 2 := (rnS_st s1).trans (if_pos c1)
    have h2 : RT (d2 (d2 (d2 (d2 d 65 11 (nI 120)) 65 10 (nI (p + 1))) 73 0 (nI (dn (sg f L (p + 1))))) 65 10 (nI (p + 2))) f L (p + 2) := RT_p (RT_t h1) (by omega)
    by_cases c2 : 48 ≤ sg f L (p + 2) ∧ sg f L (p + 2) ≤ 48 + 7
    · have p2 : p + 2 < L := sg_L (f := f) (by omega)
      have s3 : rnS f L (p + 3) = 11 := (rnS_st s2).trans (if_pos c2)
      refine ⟨d2 (d2 (d2 (d2 (d2 (d2 d 65 11 (nI 120)) 65 10 (nI (p + 1))) 73 0 (nI (dn (sg f L (p + 1))))) 65 10 (nI (p + 2))) 73 1 (nI (dn (sg f L (p + 2))))) 65 10 (nI (p + 3)), p + 3, (RT_p (RT_t h2) (by omega)), (rfr_p (rfr_t (rfr_p (rfr_t (rfr_p (rfr_l (rfr_refl d))))))), Or.inl ⟨op_of pl_X7_readOrder (Nat.le_of_ble_eq_true rfl) ?_, ?_, ?_⟩⟩
      ·
        refine sw_aload_n (i := 0) dX7_readOrder_0 rfl rfl ?_
        refine sw_aload_n (i := 0) dX7_readOrder_1 rfl rfl ?_
        refine sx_getIE (nI p) h.2.2.2.1 f_X7_128 (by decide) kf_65_10 dX7_readOrder_2 ?_
        refine sw_aload_n (i := 0) dX7_readOrder_5 rfl rfl ?_
        refine sx_getIE (nI L) h.2.2.1 f_X7_125 (by decide) kf_65_6 dX7_readOrder_6 ?_
        refine sw_ic_ge (tgt := 24) dX7_readOrder_9 rfl (fun h9 => absurd h9 (nI_ge hpL (by omega))) (fun _ => ?_)
        refine sw_aload_n (i := 0) dX7_readOrder_12 rfl rfl ?_
        refine sw_ins (pc2 := 13) rfl rfl ?_
        refine sx_getR (q := 70) f_X7_23 (by decide) kr_65_5 dX7_readOrder_13 ?_
        refine sw_aload_n (i := 0) dX7_readOrder_16 rfl rfl ?_
        refine sx_getIE (nI p) h.2.2.2.1 f_X7_128 (by decide) kf_65_10 dX7_readOrder_17 ?_
        refine sx_ialdE (p) (nI 120) ((RT_x h hpL).trans (congrArg nI c0)) rfl rfl (by omega) dX7_readOrder_20 ?_
        refine sw_goto (tgt := 25) dX7_readOrder_21 rfl ?_
        refine sx_putI fp_X7_138 (by decide) kf_65_11 dX7_readOrder_25 ?_
        refine sw_aload_n (i := 0) dX7_readOrder_28 rfl rfl ?_
        refine sw_dup dX7_readOrder_29 rfl ?_
        refine sw_ins (pc2 := 30) rfl rfl ?_
        refine sx_getIE (nI p) ((d2_ne _ _ (Or.inr (by decide))).trans h.2.2.2.1) f_X7_128 (by decide) kf_65_10 dX7_readOrder_30 ?_
        refine sw_ic 1 dX7_readOrder_33 ?_
        refine sw_iadd dX7_readOrder_34 ?_
        refine sw_topE (v := nI (p + 1)) (nI_1 p) ?_
        refine sx_putI fp_X7_128 (by decide) kf_65_10 dX7_readOrder_35 ?_
        refine sw_aload_n (i := 0) dX7_readOrder_38 rfl rfl ?_
        refine sx_getIE (nI 120) rfl f_X7_138 (by decide) kf_65_11 dX7_readOrder_39 ?_
        refine sw_lookup (off := 44) (tgt := 86) dX7_readOrder_42 (by decide) (by decide) (by decide) ?_
        refine sw_aload_n (i := 0) dX7_readOrder_86 rfl rfl ?_
        refine sw_ins (pc2 := 87) rfl rfl ?_
        refine sw_ic 0 dX7_readOrder_87 ?_
        refine sw_bi 7 dX7_readOrder_88 (by decide +kernel) ?_
        refine px_Vx mv_X7_135 (A1_X7_readDigit h1 (w := 0) (m := 7) (by decide) (by decide) c1) rfl rfl (Nat.le_of_ble_eq_true rfl) (Nat.le_of_ble_eq_true rfl) ko_65 (Nat.le_of_ble_eq_true rfl) dX7_readOrder_90 ?_
        refine sw_if_eq (tgt := 110) dX7_readOrder_93 rfl (fun h9 => absurd h9 (by decide)) (fun _ => ?_)
        refine sw_aload_n (i := 0) dX7_readOrder_96 rfl rfl ?_
        refine sw_ic 1 dX7_readOrder_97 ?_
        refine sw_bi 7 dX7_readOrder_98 (by decide +kernel) ?_
        refine px_Vx mv_X7_135 (A1_X7_readDigit h2 (w := 1) (m := 7) (by decide) (by decide) c2) rfl rfl (Nat.le_of_ble_eq_true rfl) (Nat.le_of_ble_eq_true rfl) ko_65 (Nat.le_of_ble_eq_true rfl) dX7_readOrder_100 ?_
        refine sw_ins (pc2 := 103) rfl rfl ?_
        refine sw_if_eq (tgt := 110) dX7_readOrder_103 rfl (fun h9 => absurd h9 (by decide)) (fun _ => ?_)
        refine sw_ic 1 dX7_readOrder_106 ?_
        refine sw_goto (tgt := 111) dX7_readOrder_107 rfl ?_
        exact sw_zreturnE rfl rfl rfl dX7_readOrder_111
      · refine ⟨s3, by omega, by omega, fun i i1 i2 => ?_⟩
        have hi : i = p ∨ i = p + 1 ∨ i = p + 2 := by omega
        rcases hi with hi | hi | hi <;> rw [hi] <;> omega
      · exact ⟨by rw [c0]; rfl, Or.inr (Or.inl ⟨c0, c1, c2⟩), Or.inr rfl, Or.inr (Or.inr rfl), Or.inl (by omega)⟩
    ·
      refine ⟨d2 (d2 (d2 (d2 (d2 (d2 d 65 11 (nI 120)) 65 10 (nI (p + 1))) 73 0 (nI (dn (sg f L (p + 1))))) 65 10 (nI (p + 2))) 73 1 (nI 0)) 65 10 (nI (p + 2)), p + 2, (RT_p (RT_t h2) (by omega)), (rfr_p (rfr_t (rfr_p (rfr_t (rfr_p (rfr_l (rfr_refl d))))))), Or.inr ⟨op_of pl_X7_readOrder (Nat.le_of_ble_eq_true rfl) ?_, ?_⟩⟩
      ·
        refine sw_aload_n (i := 0) dX7_readOrder_0 rfl rfl ?_
        refine sw_aload_n (i := 0) dX7_readOrder_1 rfl rfl ?_
        refine sx_getIE (nI p) h.2.2.2.1 f_X7_128 (by decide) kf_65_10 dX7_readOrder_2 ?_
        refine sw_aload_n (i := 0) dX7_readOrder_5 rfl rfl ?_
        refine sx_getIE (nI L) h.2.2.1 f_X7_125 (by decide) kf_65_6 dX7_readOrder_6 ?_
        refine sw_ic_ge (tgt := 24) dX7_readOrder_9 rfl (fun h9 => absurd h9 (nI_ge hpL (by omega))) (fun _ => ?_)
        refine sw_aload_n (i := 0) dX7_readOrder_12 rfl rfl ?_
        refine sw_ins (pc2 := 13) rfl rfl ?_
        refine sx_getR (q := 70) f_X7_23 (by decide) kr_65_5 dX7_readOrder_13 ?_
        refine sw_aload_n (i := 0) dX7_readOrder_16 rfl rfl ?_
        refine sx_getIE (nI p) h.2.2.2.1 f_X7_128 (by decide) kf_65_10 dX7_readOrder_17 ?_
        refine sx_ialdE (p) (nI 120) ((RT_x h hpL).trans (congrArg nI c0)) rfl rfl (by omega) dX7_readOrder_20 ?_
        refine sw_goto (tgt := 25) dX7_readOrder_21 rfl ?_
        refine sx_putI fp_X7_138 (by decide) kf_65_11 dX7_readOrder_25 ?_
        refine sw_aload_n (i := 0) dX7_readOrder_28 rfl rfl ?_
        refine sw_dup dX7_readOrder_29 rfl ?_
        refine sw_ins (pc2 := 30) rfl rfl ?_
        refine sx_getIE (nI p) ((d2_ne _ _ (Or.inr (by decide))).trans h.2.2.2.1) f_X7_128 (by decide) kf_65_10 dX7_readOrder_30 ?_
        refine sw_ic 1 dX7_readOrder_33 ?_
        refine sw_iadd dX7_readOrder_34 ?_
        refine sw_topE (v := nI (p + 1)) (nI_1 p) ?_
        refine sx_putI fp_X7_128 (by decide) kf_65_10 dX7_readOrder_35 ?_
        refine sw_aload_n (i := 0) dX7_readOrder_38 rfl rfl ?_
        refine sx_getIE (nI 120) rfl f_X7_138 (by decide) kf_65_11 dX7_readOrder_39 ?_
        refine sw_lookup (off := 44) (tgt := 86) dX7_readOrder_42 (by decide) (by decide) (by decide) ?_
        refine sw_aload_n (i := 0) dX7_readOrder_86 rfl rfl ?_
        refine sw_ins (pc2 := 87) rfl rfl ?_
        refine sw_ic 0 dX7_readOrder_87 ?_
        refine sw_bi 7 dX7_readOrder_88 (by decide +kernel) ?_
        refine px_Vx mv_X7_135 (A1_X7_readDigit h1 (w := 0) (m := 7) (by decide) (by decide) c1) rfl rfl (Nat.le_of_ble_eq_true rfl) (Nat.le_of_ble_eq_true rfl) ko_65 (Nat.le_of_ble_eq_true rfl) dX7_readOrder_90 ?_
        refine sw_if_eq (tgt := 110) dX7_readOrder_93 rfl (fun h9 => absurd h9 (by decide)) (fun _ => ?_)
        refine sw_aload_n (i := 0) dX7_readOrder_96 rfl rfl ?_
        refine sw_ic 1 dX7_readOrder_97 ?_
        refine sw_bi 7 dX7_readOrder_98 (by decide +kernel) ?_
        refine px_Vx mv_X7_135 (A0_X7_readDigit h2 (w := 1) (m := 7) (by decide) (by decide) c2) rfl rfl (Nat.le_of_ble_eq_true rfl) (Nat.le_of_ble_eq_true rfl) ko_65 (Nat.le_of_ble_eq_true rfl) dX7_readOrder_100 ?_
        refine sw_ins (pc2 := 103) rfl rfl ?_
        refine sw_if_eq (tgt := 110) dX7_readOrder_103 rfl (fun _ => ?_) (fun h9 => absurd (by decide) h9)
        refine sw_ic 0 dX7_readOrder_110 ?_
        exact sw_zreturnE rfl rfl rfl dX7_readOrder_111
      · exact roF_of (by omega) s2 (by decide) (by decide) (if_neg c2)
  ·
    refine ⟨d2 (d2 (d2 (d2 d 65 11 (nI 120)) 65 10 (nI (p + 1))) 73 0 (nI 0)) 65 10 (nI (p + 1)), p + 1, (RT_p (RT_t h1) (by omega)), (rfr_p (rfr_t (rfr_p (rfr_l (rfr_refl d))))), Or.inr ⟨op_of pl_X7_readOrder (Nat.le_of_ble_eq_true rfl) ?_, ?_⟩⟩
    ·
      refine sw_aload_n (i := 0) dX7_readOrder_0 rfl rfl ?_
      refine sw_aload_n (i := 0) dX7_readOrder_1 rfl rfl ?_
      refine sx_getIE (nI p) h.2.2.2.1 f_X7_128 (by decide) kf_65_10 dX7_readOrder_2 ?_
      refine sw_aload_n (i := 0) dX7_readOrder_5 rfl rfl ?_
      refine sx_getIE (nI L) h.2.2.1 f_X7_125 (by decide) kf_65_6 dX7_readOrder_6 ?_
      refine sw_ic_ge (tgt := 24) dX7_readOrder_9 rfl (fun h9 => absurd h9 (nI_ge hpL (by omega))) (fun _ => ?_)
      refine sw_aload_n (i := 0) dX7_readOrder_12 rfl rfl ?_
      refine sw_ins (pc2 := 13) rfl rfl ?_
      refine sx_getR (q := 70) f_X7_23 (by decide) kr_65_5 dX7_readOrder_13 ?_
      refine sw_aload_n (i := 0) dX7_readOrder_16 rfl rfl ?_
      refine sx_getIE (nI p) h.2.2.2.1 f_X7_128 (by decide) kf_65_10 dX7_readOrder_17 ?_
      refine sx_ialdE (p) (nI 120) ((RT_x h hpL).trans (congrArg nI c0)) rfl rfl (by omega) dX7_readOrder_20 ?_
      refine sw_goto (tgt := 25) dX7_readOrder_21 rfl ?_
      refine sx_putI fp_X7_138 (by decide) kf_65_11 dX7_readOrder_25 ?_
      refine sw_aload_n (i := 0) dX7_readOrder_28 rfl rfl ?_
      refine sw_dup dX7_readOrder_29 rfl ?_
      refine sw_ins (pc2 := 30) rfl rfl ?_
      refine sx_getIE (nI p) ((d2_ne _ _ (Or.inr (by decide))).trans h.2.2.2.1) f_X7_128 (by decide) kf_65_10 dX7_readOrder_30 ?_
      refine sw_ic 1 dX7_readOrder_33 ?_
      refine sw_iadd dX7_readOrder_34 ?_
      refine sw_topE (v := nI (p + 1)) (nI_1 p) ?_
      refine sx_putI fp_X7_128 (by decide) kf_65_10 dX7_readOrder_35 ?_
      refine sw_aload_n (i := 0) dX7_readOrder_38 rfl rfl ?_
      refine sx_getIE (nI 120) rfl f_X7_138 (by decide) kf_65_11 dX7_readOrder_39 ?_
      refine sw_lookup (off := 44) (tgt := 86) dX7_readOrder_42 (by decide) (by decide) (by decide) ?_
      refine sw_aload_n (i := 0) dX7_readOrder_86 rfl rfl ?_
      refine sw_ins (pc2 := 87) rfl rfl ?_
      refine sw_ic 0 dX7_readOrder_87 ?_
      refine sw_bi 7 dX7_readOrder_88 (by decide +kernel) ?_
      refine px_Vx mv_X7_135 (A0_X7_readDigit h1 (w := 0) (m := 7) (by decide) (by decide) c1) rfl rfl (Nat.le_of_ble_eq_true rfl) (Nat.le_of_ble_eq_true rfl) ko_65 (Nat.le_of_ble_eq_true rfl) dX7_readOrder_90 ?_
      refine sw_if_eq (tgt := 110) dX7_readOrder_93 rfl (fun _ => ?_) (fun h9 => absurd (by decide) h9)
      refine sw_ic 0 dX7_readOrder_110 ?_
      exact sw_zreturnE rfl rfl rfl dX7_readOrder_111
    · exact roF_of (by omega) s1 (by decide) (by decide) (if_neg c1)
set_option maxRecDepth 100000 in
set_option maxHeartbeats 4000000 in
theorem Bp_X7_readOrder {d : Nat → Nat → Int32} {r : Nat → Nat → Option Nat} {J : Nat → Nat → Int64} {f : Nat → Int32} {L p : Nat} (h : RT d f L p) (hp : p ≤ L) (hs : rnS f L p = 0) (c0 : sg f L p = 112) : ∃ d1 q, RT d1 f L q ∧ rfr d d1 ∧ ((OP kX7_readOrder yX7_readOrder 4 [.ref 65] d r J (some (.int (nI 1))) d1 r J ∧ roT f L p q ∧ tld d1 f L p) ∨ (OP kX7_readOrder yX7_readOrder 4 [.ref 65] d r J (some (.int (nI 0))) d1 r J ∧ roF f L q)) := by
  have h60 := RT_60 h
  have hpL : p < L := sg_L (f := f) (by omega)
  have h1 : RT (d2 (d2 d 65 11 (nI 112)) 65 10 (nI (p + 1))) f L (p + 1) := RT_p (RT_l h) (by omega)
  have s1 : rnS f L (p + 1) = 3 := (rnS_st hs).trans (by rw [c0]; rfl)
  by_cases c1 : 48 ≤ sg f L (p + 1) ∧ sg f L (p + 1) ≤ 48 + 7
  · have p1 : p + 1 < L := sg_L (f := f) (by omega)
    have s2 : rnS f L (p + 2) = 4 := (rnS_st s1).trans (if_pos c1)
    have h2 : RT (d2 (d2 (d2 (d2 d 65 11 (nI 112)) 65 10 (nI (p + 1))) 73 0 (nI (dn (sg f L (p + 1))))) 65 10 (nI (p + 2))) f L (p + 2) := RT_p (RT_t h1) (by omega)
    have t2 : dg8 (sg f L (p + 1)) := c1
    by_cases e2 : sg f L (p + 2) = sg f L (p + 1)
    ·
      refine ⟨d2 (d2 (d2 (d2 d 65 11 (nI 112)) 65 10 (nI (p + 1))) 73 0 (nI (dn (sg f L (p + 1))))) 65 10 (nI (p + 2)), p + 2, h2, (rfr_p (rfr_t (rfr_p (rfr_l (rfr_refl d))))), Or.inr ⟨op_of pl_X7_readOrder (Nat.le_of_ble_eq_true rfl) ?_, ?_⟩⟩
      ·
        refine sw_aload_n (i := 0) dX7_readOrder_0 rfl rfl ?_
        refine sw_aload_n (i := 0) dX7_readOrder_1 rfl rfl ?_
        refine sx_getIE (nI p) h.2.2.2.1 f_X7_128 (by decide) kf_65_10 dX7_readOrder_2 ?_
        refine sw_aload_n (i := 0) dX7_readOrder_5 rfl rfl ?_
        refine sx_getIE (nI L) h.2.2.1 f_X7_125 (by decide) kf_65_6 dX7_readOrder_6 ?_
        refine sw_ic_ge (tgt := 24) dX7_readOrder_9 rfl (fun h9 => absurd h9 (nI_ge hpL (by omega))) (fun _ => ?_)
        refine sw_aload_n (i := 0) dX7_readOrder_12 rfl rfl ?_
        refine sw_ins (pc2 := 13) rfl rfl ?_
        refine sx_getR (q := 70) f_X7_23 (by decide) kr_65_5 dX7_readOrder_13 ?_
        refine sw_aload_n (i := 0) dX7_readOrder_16 rfl rfl ?_
        refine sx_getIE (nI p) h.2.2.2.1 f_X7_128 (by decide) kf_65_10 dX7_readOrder_17 ?_
        refine sx_ialdE (p) (nI 112) ((RT_x h hpL).trans (congrArg nI c0)) rfl rfl (by omega) dX7_readOrder_20 ?_
        refine sw_goto (tgt := 25) dX7_readOrder_21 rfl ?_
        refine sx_putI fp_X7_138 (by decide) kf_65_11 dX7_readOrder_25 ?_
        refine sw_aload_n (i := 0) dX7_readOrder_28 rfl rfl ?_
        refine sw_dup dX7_readOrder_29 rfl ?_
        refine sw_ins (pc2 := 30) rfl rfl ?_
        refine sx_getIE (nI p) ((d2_ne _ _ (Or.inr (by decide))).trans h.2.2.2.1) f_X7_128 (by decide) kf_65_10 dX7_readOrder_30 ?_
        refine sw_ic 1 dX7_readOrder_33 ?_
        refine sw_iadd dX7_readOrder_34 ?_
        refine sw_topE (v := nI (p + 1)) (nI_1 p) ?_
        refine sx_putI fp_X7_128 (by decide) kf_65_10 dX7_readOrder_35 ?_
        refine sw_aload_n (i := 0) dX7_readOrder_38 rfl rfl ?_
        refine sx_getIE (nI 112) rfl f_X7_138 (by decide) kf_65_11 dX7_readOrder_39 ?_
        refine sw_lookup (off := 70) (tgt := 112) dX7_readOrder_42 (by decide) (by decide) (by decide) ?_
        refine sw_aload_n (i := 0) dX7_readOrder_112 rfl rfl ?_
        refine sw_ins (pc2 := 113) rfl rfl ?_
        refine sw_ic 0 dX7_readOrder_113 ?_
        refine sw_bi 7 dX7_readOrder_114 (by decide +kernel) ?_
        refine px_Vx mv_X7_135 (A1_X7_readDigit h1 (w := 0) (m := 7) (by decide) (by decide) c1) rfl rfl (Nat.le_of_ble_eq_true rfl) (Nat.le_of_ble_eq_true rfl) ko_65 (Nat.le_of_ble_eq_true rfl) dX7_readOrder_116 ?_
        refine sw_if_eq (tgt := 168) dX7_readOrder_119 rfl (fun h9 => absurd h9 (by decide)) (fun _ => ?_)
        refine sw_aload_n (i := 0) dX7_readOrder_122 rfl rfl ?_
        refine px_Vx mv_X7_141 (A2_X7_readOther h2 rfl t2 e2) rfl rfl (Nat.le_of_ble_eq_true rfl) (Nat.le_of_ble_eq_true rfl) ko_65 (Nat.le_of_ble_eq_true rfl) dX7_readOrder_123 ?_
        refine sw_if_eq (tgt := 168) dX7_readOrder_126 rfl (fun _ => ?_) (fun h9 => absurd (by decide) h9)
        refine sw_ic 0 dX7_readOrder_168 ?_
        refine sw_ins (pc2 := 169) rfl rfl ?_
        exact sw_zreturnE rfl rfl rfl dX7_readOrder_169
      · exact roF_of (by omega) s2 (by decide) (by decide) (if_pos (by rw [sgp_s]; exact e2))
    · by_cases c2 : 48 ≤ sg f L (p + 2) ∧ sg f L (p + 2) ≤ 48 + 7
      · have p2 : p + 2 < L := sg_L (f := f) (by omega)
        have s3 : rnS f L (p + 3) = 5 := (rnS_st s2).trans ((if_neg (by rw [sgp_s]; exact e2)).trans (if_pos c2))
        have h3 : RT (d2 (d2 (d2 (d2 (d2 (d2 d 65 11 (nI 112)) 65 10 (nI (p + 1))) 73 0 (nI (dn (sg f L (p + 1))))) 65 10 (nI (p + 2))) 73 1 (nI (dn (sg f L (p + 2))))) 65 10 (nI (p + 3))) f L (p + 3) := RT_p (RT_t h2) (by omega)
        by_cases c3 : sg f L (p + 3) = 61
        · have p3 : p + 3 < L := sg_L (f := f) (by omega)
          have s4 : rnS f L (p + 4) = 6 := (rnS_st s3).trans (if_pos (by omega))
          have h4 : RT (d2 (d2 (d2 (d2 (d2 (d2 (d2 d 65 11 (nI 112)) 65 10 (nI (p + 1))) 73 0 (nI (dn (sg f L (p + 1))))) 65 10 (nI (p + 2))) 73 1 (nI (dn (sg f L (p + 2))))) 65 10 (nI (p + 3))) 65 10 (nI (p + 4))) f L (p + 4) := RT_p h3 (by omega)
          by_cases c4 : 49 ≤ sg f L (p + 4) ∧ sg f L (p + 4) ≤ 57
          · have p4 : p + 4 < L := sg_L (f := f) (by omega)
            have s5 : rnS f L (p + 5) = 7 := (rnS_st s4).trans (if_pos c4)
            have g4 : 48 ≤ sg f L (p + 4) ∧ sg f L (p + 4) ≤ 57 := ⟨by omega, by omega⟩
            by_cases c5 : 48 ≤ sg f L (p + 5) ∧ sg f L (p + 5) ≤ 57
            · have p5 : p + 5 < L := sg_L (f := f) (by omega)
              have s6 : rnS f L (p + 6) = 8 := (rnS_st s5).trans ((if_neg (by omega)).trans (if_pos c5))
              have h6 : RT (d2 (d2 (d2 (d2 (d2 (d2 (d2 (d2 (d2 (d2 (d2 d 65 11 (nI 112)) 65 10 (nI (p + 1))) 73 0 (nI (dn (sg f L (p + 1))))) 65 10 (nI (p + 2))) 73 1 (nI (dn (sg f L (p + 2))))) 65 10 (nI (p + 3))) 65 10 (nI (p + 4))) 73 2 (nI (dn (sg f L (p + 4))))) 65 10 (nI (p + 5))) 73 2 (nI (10 * dn (sg f L (p + 4)) + dn (sg f L (p + 5))))) 65 10 (nI (p + 6))) f L (p + 6) := RT_p (RT_t (RT_p (RT_t h4) (by omega))) (by omega)
              by_cases c6 : sg f L (p + 6) = 47
              · have p6 : p + 6 < L := sg_L (f := f) (by omega)
                have s7 : rnS f L (p + 7) = 9 := (rnS_st s6).trans (if_pos (by omega))
                have h7 : RT (d2 (d2 (d2 (d2 (d2 (d2 (d2 (d2 (d2 (d2 (d2 (d2 d 65 11 (nI 112)) 65 10 (nI (p + 1))) 73 0 (nI (dn (sg f L (p + 1))))) 65 10 (nI (p + 2))) 73 1 (nI (dn (sg f L (p + 2))))) 65 10 (nI (p + 3))) 65 10 (nI (p + 4))) 73 2 (nI (dn (sg f L (p + 4))))) 65 10 (nI (p + 5))) 73 2 (nI (10 * dn (sg f L (p + 4)) + dn (sg f L (p + 5))))) 65 10 (nI (p + 6))) 65 10 (nI (p + 7))) f L (p + 7) := RT_p h6 (by omega)
                by_cases c7 : 48 ≤ sg f L (p + 7) ∧ sg f L (p + 7) ≤ 48 + 9
                · have p7 : p + 7 < L := sg_L (f := f) (by omega)
                  have s8 : rnS f L (p + 8) = 11 := (rnS_st s7).trans (if_pos c7)
                  have e1 : smO f L p = nI (10 * dn (sg f L (p + 4)) + dn (sg f L (p + 5))) := by
                    unfold smO
                    rw [if_neg (dgt_m c5), dgt_d g4, dgt_d c5, pk_mul, nI_add, Nat.mul_comm]
                  have e3 : dyO f L p = nI (dn (sg f L (p + 7))) := by
                    unfold dyO
                    rw [if_neg (dgt_m c5), dgt_d c7]
                  refine ⟨d2 (d2 (d2 (d2 (d2 (d2 (d2 (d2 (d2 (d2 (d2 (d2 (d2 (d2 d 65 11 (nI 112)) 65 10 (nI (p + 1))) 73 0 (nI (dn (sg f L (p + 1))))) 65 10 (nI (p + 2))) 73 1 (nI (dn (sg f L (p + 2))))) 65 10 (nI (p + 3))) 65 10 (nI (p + 4))) 73 2 (nI (dn (sg f L (p + 4))))) 65 10 (nI (p + 5))) 73 2 (nI (10 * dn (sg f L (p + 4)) + dn (sg f L (p + 5))))) 65 10 (nI (p + 6))) 65 10 (nI (p + 7))) 73 3 (nI (dn (sg f L (p + 7))))) 65 10 (nI (p + 8)), p + 8, (RT_p (RT_t h7) (by omega)), (rfr_p (rfr_t (rfr_p (rfr_p (rfr_t (rfr_p (rfr_t (rfr_p (rfr_p (rfr_t (rfr_p (rfr_t (rfr_p (rfr_l (rfr_refl d))))))))))))))), Or.inl ⟨op_of pl_X7_readOrder (Nat.le_of_ble_eq_true rfl) ?_, ?_, ?_⟩⟩
                  ·
                    refine sw_aload_n (i := 0) dX7_readOrder_0 rfl rfl ?_
                    refine sw_aload_n (i := 0) dX7_readOrder_1 rfl rfl ?_
                    refine sx_getIE (nI p) h.2.2.2.1 f_X7_128 (by decide) kf_65_10 dX7_readOrder_2 ?_
                    refine sw_aload_n (i := 0) dX7_readOrder_5 rfl rfl ?_
                    refine sx_getIE (nI L) h.2.2.1 f_X7_125 (by decide) kf_65_6 dX7_readOrder_6 ?_
                    refine sw_ic_ge (tgt := 24) dX7_readOrder_9 rfl (fun h9 => absurd h9 (nI_ge hpL (by omega))) (fun _ => ?_)
                    refine sw_aload_n (i := 0) dX7_readOrder_12 rfl rfl ?_
                    refine sw_ins (pc2 := 13) rfl rfl ?_
                    refine sx_getR (q := 70) f_X7_23 (by decide) kr_65_5 dX7_readOrder_13 ?_
                    refine sw_aload_n (i := 0) dX7_readOrder_16 rfl rfl ?_
                    refine sx_getIE (nI p) h.2.2.2.1 f_X7_128 (by decide) kf_65_10 dX7_readOrder_17 ?_
                    refine sx_ialdE (p) (nI 112) ((RT_x h hpL).trans (congrArg nI c0)) rfl rfl (by omega) dX7_readOrder_20 ?_
                    refine sw_goto (tgt := 25) dX7_readOrder_21 rfl ?_
                    refine sx_putI fp_X7_138 (by decide) kf_65_11 dX7_readOrder_25 ?_
                    refine sw_aload_n (i := 0) dX7_readOrder_28 rfl rfl ?_
                    refine sw_dup dX7_readOrder_29 rfl ?_
                    refine sw_ins (pc2 := 30) rfl rfl ?_
                    refine sx_getIE (nI p) ((d2_ne _ _ (Or.inr (by decide))).trans h.2.2.2.1) f_X7_128 (by decide) kf_65_10 dX7_readOrder_30 ?_
                    refine sw_ic 1 dX7_readOrder_33 ?_
                    refine sw_iadd dX7_readOrder_34 ?_
                    refine sw_topE (v := nI (p + 1)) (nI_1 p) ?_
                    refine sx_putI fp_X7_128 (by decide) kf_65_10 dX7_readOrder_35 ?_
                    refine sw_aload_n (i := 0) dX7_readOrder_38 rfl rfl ?_
                    refine sx_getIE (nI 112) rfl f_X7_138 (by decide) kf_65_11 dX7_readOrder_39 ?_
                    refine sw_lookup (off := 70) (tgt := 112) dX7_readOrder_42 (by decide) (by decide) (by decide) ?_
                    refine sw_aload_n (i := 0) dX7_readOrder_112 rfl rfl ?_
                    refine sw_ins (pc2 := 113) rfl rfl ?_
                    refine sw_ic 0 dX7_readOrder_113 ?_
                    refine sw_bi 7 dX7_readOrder_114 (by decide +kernel) ?_
                    refine px_Vx mv_X7_135 (A1_X7_readDigit h1 (w := 0) (m := 7) (by decide) (by decide) c1) rfl rfl (Nat.le_of_ble_eq_true rfl) (Nat.le_of_ble_eq_true rfl) ko_65 (Nat.le_of_ble_eq_true rfl) dX7_readOrder_116 ?_
                    refine sw_if_eq (tgt := 168) dX7_readOrder_119 rfl (fun h9 => absurd h9 (by decide)) (fun _ => ?_)
                    refine sw_aload_n (i := 0) dX7_readOrder_122 rfl rfl ?_
                    refine px_Vx mv_X7_141 (A1_X7_readOther h2 rfl t2 c2 e2) rfl rfl (Nat.le_of_ble_eq_true rfl) (Nat.le_of_ble_eq_true rfl) ko_65 (Nat.le_of_ble_eq_true rfl) dX7_readOrder_123 ?_
                    refine sw_if_eq (tgt := 168) dX7_readOrder_126 rfl (fun h9 => absurd h9 (by decide)) (fun _ => ?_)
                    refine sw_aload_n (i := 0) dX7_readOrder_129 rfl rfl ?_
                    refine sw_ins (pc2 := 130) rfl rfl ?_
                    refine sw_bi 61 dX7_readOrder_130 (by decide +kernel) ?_
                    refine px_Vx mv_X7_145 (A1_X7_takes h3 (c := 61) (by decide) (by decide) c3) rfl rfl (Nat.le_of_ble_eq_true rfl) (Nat.le_of_ble_eq_true rfl) ko_65 (Nat.le_of_ble_eq_true rfl) dX7_readOrder_132 ?_
                    refine sw_if_eq (tgt := 168) dX7_readOrder_135 rfl (fun h9 => absurd h9 (by decide)) (fun _ => ?_)
                    refine sw_aload_n (i := 0) dX7_readOrder_138 rfl rfl ?_
                    refine px_Vx mv_X7_148 (A2_X7_readSum h4 c4 c5) rfl rfl (Nat.le_of_ble_eq_true rfl) (Nat.le_of_ble_eq_true rfl) ko_65 (Nat.le_of_ble_eq_true rfl) dX7_readOrder_139 ?_
                    refine sw_if_eq (tgt := 168) dX7_readOrder_142 rfl (fun h9 => absurd h9 (by decide)) (fun _ => ?_)
                    refine sw_aload_n (i := 0) dX7_readOrder_145 rfl rfl ?_
                    refine sw_bi 47 dX7_readOrder_146 (by decide +kernel) ?_
                    refine sw_ins (pc2 := 148) rfl rfl ?_
                    refine px_Vx mv_X7_145 (A1_X7_takes h6 (c := 47) (by decide) (by decide) c6) rfl rfl (Nat.le_of_ble_eq_true rfl) (Nat.le_of_ble_eq_true rfl) ko_65 (Nat.le_of_ble_eq_true rfl) dX7_readOrder_148 ?_
                    refine sw_if_eq (tgt := 168) dX7_readOrder_151 rfl (fun h9 => absurd h9 (by decide)) (fun _ => ?_)
                    refine sw_aload_n (i := 0) dX7_readOrder_154 rfl rfl ?_
                    refine sw_ic 3 dX7_readOrder_155 ?_
                    refine sw_bi 9 dX7_readOrder_156 (by decide +kernel) ?_
                    refine px_Vx mv_X7_135 (A1_X7_readDigit h7 (w := 3) (m := 9) (by decide) (by decide) c7) rfl rfl (Nat.le_of_ble_eq_true rfl) (Nat.le_of_ble_eq_true rfl) ko_65 (Nat.le_of_ble_eq_true rfl) dX7_readOrder_158 ?_
                    refine sw_if_eq (tgt := 168) dX7_readOrder_161 rfl (fun h9 => absurd h9 (by decide)) (fun _ => ?_)
                    refine sw_ic 1 dX7_readOrder_164 ?_
                    refine sw_ins (pc2 := 165) rfl rfl ?_
                    refine sw_goto (tgt := 169) dX7_readOrder_165 rfl ?_
                    exact sw_zreturnE rfl rfl rfl dX7_readOrder_169
                  · refine ⟨s8, by omega, by omega, fun i i1 i2 => ?_⟩
                    have hi : i = p ∨ i = p + 1 ∨ i = p + 2 ∨ i = p + 3 ∨ i = p + 4 ∨ i = p + 5 ∨ i = p + 6 ∨ i = p + 7 := by omega
                    rcases hi with hi | hi | hi | hi | hi | hi | hi | hi <;> rw [hi] <;> omega
                  · refine ⟨by rw [c0]; rfl, Or.inr (Or.inr (Or.inl ⟨c0, c1, c2, fun q => e2 q.symm, ⟨_, ?_, ?_, e1⟩, _, ?_, e3⟩)), Or.inr rfl, Or.inr (Or.inr rfl), Or.inr ⟨e1.symm, e3.symm⟩⟩ <;> unfold dn <;> omega
                ·
                  refine ⟨d2 (d2 (d2 (d2 (d2 (d2 (d2 (d2 (d2 (d2 (d2 (d2 (d2 (d2 d 65 11 (nI 112)) 65 10 (nI (p + 1))) 73 0 (nI (dn (sg f L (p + 1))))) 65 10 (nI (p + 2))) 73 1 (nI (dn (sg f L (p + 2))))) 65 10 (nI (p + 3))) 65 10 (nI (p + 4))) 73 2 (nI (dn (sg f L (p + 4))))) 65 10 (nI (p + 5))) 73 2 (nI (10 * dn (sg f L (p + 4)) + dn (sg f L (p + 5))))) 65 10 (nI (p + 6))) 65 10 (nI (p + 7))) 73 3 (nI 0)) 65 10 (nI (p + 7)), p + 7, (RT_p (RT_t h7) (by omega)), (rfr_p (rfr_t (rfr_p (rfr_p (rfr_t (rfr_p (rfr_t (rfr_p (rfr_p (rfr_t (rfr_p (rfr_t (rfr_p (rfr_l (rfr_refl d))))))))))))))), Or.inr ⟨op_of pl_X7_readOrder (Nat.le_of_ble_eq_true rfl) ?_, ?_⟩⟩
                  ·
                    refine sw_aload_n (i := 0) dX7_readOrder_0 rfl rfl ?_
                    refine sw_aload_n (i := 0) dX7_readOrder_1 rfl rfl ?_
                    refine sx_getIE (nI p) h.2.2.2.1 f_X7_128 (by decide) kf_65_10 dX7_readOrder_2 ?_
                    refine sw_aload_n (i := 0) dX7_readOrder_5 rfl rfl ?_
                    refine sx_getIE (nI L) h.2.2.1 f_X7_125 (by decide) kf_65_6 dX7_readOrder_6 ?_
                    refine sw_ic_ge (tgt := 24) dX7_readOrder_9 rfl (fun h9 => absurd h9 (nI_ge hpL (by omega))) (fun _ => ?_)
                    refine sw_aload_n (i := 0) dX7_readOrder_12 rfl rfl ?_
                    refine sw_ins (pc2 := 13) rfl rfl ?_
                    refine sx_getR (q := 70) f_X7_23 (by decide) kr_65_5 dX7_readOrder_13 ?_
                    refine sw_aload_n (i := 0) dX7_readOrder_16 rfl rfl ?_
                    refine sx_getIE (nI p) h.2.2.2.1 f_X7_128 (by decide) kf_65_10 dX7_readOrder_17 ?_
                    refine sx_ialdE (p) (nI 112) ((RT_x h hpL).trans (congrArg nI c0)) rfl rfl (by omega) dX7_readOrder_20 ?_
                    refine sw_goto (tgt := 25) dX7_readOrder_21 rfl ?_
                    refine sx_putI fp_X7_138 (by decide) kf_65_11 dX7_readOrder_25 ?_
                    refine sw_aload_n (i := 0) dX7_readOrder_28 rfl rfl ?_
                    refine sw_dup dX7_readOrder_29 rfl ?_
                    refine sw_ins (pc2 := 30) rfl rfl ?_
                    refine sx_getIE (nI p) ((d2_ne _ _ (Or.inr (by decide))).trans h.2.2.2.1) f_X7_128 (by decide) kf_65_10 dX7_readOrder_30 ?_
                    refine sw_ic 1 dX7_readOrder_33 ?_
                    refine sw_iadd dX7_readOrder_34 ?_
                    refine sw_topE (v := nI (p + 1)) (nI_1 p) ?_
                    refine sx_putI fp_X7_128 (by decide) kf_65_10 dX7_readOrder_35 ?_
                    refine sw_aload_n (i := 0) dX7_readOrder_38 rfl rfl ?_
                    refine sx_getIE (nI 112) rfl f_X7_138 (by decide) kf_65_11 dX7_readOrder_39 ?_
                    refine sw_lookup (off := 70) (tgt := 112) dX7_readOrder_42 (by decide) (by decide) (by decide) ?_
                    refine sw_aload_n (i := 0) dX7_readOrder_112 rfl rfl ?_
                    refine sw_ins (pc2 := 113) rfl rfl ?_
                    refine sw_ic 0 dX7_readOrder_113 ?_
                    refine sw_bi 7 dX7_readOrder_114 (by decide +kernel) ?_
                    refine px_Vx mv_X7_135 (A1_X7_readDigit h1 (w := 0) (m := 7) (by decide) (by decide) c1) rfl rfl (Nat.le_of_ble_eq_true rfl) (Nat.le_of_ble_eq_true rfl) ko_65 (Nat.le_of_ble_eq_true rfl) dX7_readOrder_116 ?_
                    refine sw_if_eq (tgt := 168) dX7_readOrder_119 rfl (fun h9 => absurd h9 (by decide)) (fun _ => ?_)
                    refine sw_aload_n (i := 0) dX7_readOrder_122 rfl rfl ?_
                    refine px_Vx mv_X7_141 (A1_X7_readOther h2 rfl t2 c2 e2) rfl rfl (Nat.le_of_ble_eq_true rfl) (Nat.le_of_ble_eq_true rfl) ko_65 (Nat.le_of_ble_eq_true rfl) dX7_readOrder_123 ?_
                    refine sw_if_eq (tgt := 168) dX7_readOrder_126 rfl (fun h9 => absurd h9 (by decide)) (fun _ => ?_)
                    refine sw_aload_n (i := 0) dX7_readOrder_129 rfl rfl ?_
                    refine sw_ins (pc2 := 130) rfl rfl ?_
                    refine sw_bi 61 dX7_readOrder_130 (by decide +kernel) ?_
                    refine px_Vx mv_X7_145 (A1_X7_takes h3 (c := 61) (by decide) (by decide) c3) rfl rfl (Nat.le_of_ble_eq_true rfl) (Nat.le_of_ble_eq_true rfl) ko_65 (Nat.le_of_ble_eq_true rfl) dX7_readOrder_132 ?_
                    refine sw_if_eq (tgt := 168) dX7_readOrder_135 rfl (fun h9 => absurd h9 (by decide)) (fun _ => ?_)
                    refine sw_aload_n (i := 0) dX7_readOrder_138 rfl rfl ?_
                    refine px_Vx mv_X7_148 (A2_X7_readSum h4 c4 c5) rfl rfl (Nat.le_of_ble_eq_true rfl) (Nat.le_of_ble_eq_true rfl) ko_65 (Nat.le_of_ble_eq_true rfl) dX7_readOrder_139 ?_
                    refine sw_if_eq (tgt := 168) dX7_readOrder_142 rfl (fun h9 => absurd h9 (by decide)) (fun _ => ?_)
                    refine sw_aload_n (i := 0) dX7_readOrder_145 rfl rfl ?_
                    refine sw_bi 47 dX7_readOrder_146 (by decide +kernel) ?_
                    refine sw_ins (pc2 := 148) rfl rfl ?_
                    refine px_Vx mv_X7_145 (A1_X7_takes h6 (c := 47) (by decide) (by decide) c6) rfl rfl (Nat.le_of_ble_eq_true rfl) (Nat.le_of_ble_eq_true rfl) ko_65 (Nat.le_of_ble_eq_true rfl) dX7_readOrder_148 ?_
                    refine sw_if_eq (tgt := 168) dX7_readOrder_151 rfl (fun h9 => absurd h9 (by decide)) (fun _ => ?_)
                    refine sw_aload_n (i := 0) dX7_readOrder_154 rfl rfl ?_
                    refine sw_ic 3 dX7_readOrder_155 ?_
                    refine sw_bi 9 dX7_readOrder_156 (by decide +kernel) ?_
                    refine px_Vx mv_X7_135 (A0_X7_readDigit h7 (w := 3) (m := 9) (by decide) (by decide) c7) rfl rfl (Nat.le_of_ble_eq_true rfl) (Nat.le_of_ble_eq_true rfl) ko_65 (Nat.le_of_ble_eq_true rfl) dX7_readOrder_158 ?_
                    refine sw_if_eq (tgt := 168) dX7_readOrder_161 rfl (fun _ => ?_) (fun h9 => absurd (by decide) h9)
                    refine sw_ic 0 dX7_readOrder_168 ?_
                    refine sw_ins (pc2 := 169) rfl rfl ?_
                    exact sw_zreturnE rfl rfl rfl dX7_readOrder_169
                  · exact roF_of (by omega) s7 (by decide) (by decide) (if_neg c7)
              ·
                refine ⟨d2 (d2 (d2 (d2 (d2 (d2 (d2 (d2 (d2 (d2 (d2 (d2 d 65 11 (nI 112)) 65 10 (nI (p + 1))) 73 0 (nI (dn (sg f L (p + 1))))) 65 10 (nI (p + 2))) 73 1 (nI (dn (sg f L (p + 2))))) 65 10 (nI (p + 3))) 65 10 (nI (p + 4))) 73 2 (nI (dn (sg f L (p + 4))))) 65 10 (nI (p + 5))) 73 2 (nI (10 * dn (sg f L (p + 4)) + dn (sg f L (p + 5))))) 65 10 (nI (p + 6))) 65 10 (nI (p + 6)), p + 6, (RT_p h6 (by omega)), (rfr_p (rfr_p (rfr_t (rfr_p (rfr_t (rfr_p (rfr_p (rfr_t (rfr_p (rfr_t (rfr_p (rfr_l (rfr_refl d))))))))))))), Or.inr ⟨op_of pl_X7_readOrder (Nat.le_of_ble_eq_true rfl) ?_, ?_⟩⟩
                ·
                  refine sw_aload_n (i := 0) dX7_readOrder_0 rfl rfl ?_
                  refine sw_aload_n (i := 0) dX7_readOrder_1 rfl rfl ?_
                  refine sx_getIE (nI p) h.2.2.2.1 f_X7_128 (by decide) kf_65_10 dX7_readOrder_2 ?_
                  refine sw_aload_n (i := 0) dX7_readOrder_5 rfl rfl ?_
                  refine sx_getIE (nI L) h.2.2.1 f_X7_125 (by decide) kf_65_6 dX7_readOrder_6 ?_
                  refine sw_ic_ge (tgt := 24) dX7_readOrder_9 rfl (fun h9 => absurd h9 (nI_ge hpL (by omega))) (fun _ => ?_)
                  refine sw_aload_n (i := 0) dX7_readOrder_12 rfl rfl ?_
                  refine sw_ins (pc2 := 13) rfl rfl ?_
                  refine sx_getR (q := 70) f_X7_23 (by decide) kr_65_5 dX7_readOrder_13 ?_
                  refine sw_aload_n (i := 0) dX7_readOrder_16 rfl rfl ?_
                  refine sx_getIE (nI p) h.2.2.2.1 f_X7_128 (by decide) kf_65_10 dX7_readOrder_17 ?_
                  refine sx_ialdE (p) (nI 112) ((RT_x h hpL).trans (congrArg nI c0)) rfl rfl (by omega) dX7_readOrder_20 ?_
                  refine sw_goto (tgt := 25) dX7_readOrder_21 rfl ?_
                  refine sx_putI fp_X7_138 (by decide) kf_65_11 dX7_readOrder_25 ?_
                  refine sw_aload_n (i := 0) dX7_readOrder_28 rfl rfl ?_
                  refine sw_dup dX7_readOrder_29 rfl ?_
                  refine sw_ins (pc2 := 30) rfl rfl ?_
                  refine sx_getIE (nI p) ((d2_ne _ _ (Or.inr (by decide))).trans h.2.2.2.1) f_X7_128 (by decide) kf_65_10 dX7_readOrder_30 ?_
                  refine sw_ic 1 dX7_readOrder_33 ?_
                  refine sw_iadd dX7_readOrder_34 ?_
                  refine sw_topE (v := nI (p + 1)) (nI_1 p) ?_
                  refine sx_putI fp_X7_128 (by decide) kf_65_10 dX7_readOrder_35 ?_
                  refine sw_aload_n (i := 0) dX7_readOrder_38 rfl rfl ?_
                  refine sx_getIE (nI 112) rfl f_X7_138 (by decide) kf_65_11 dX7_readOrder_39 ?_
                  refine sw_lookup (off := 70) (tgt := 112) dX7_readOrder_42 (by decide) (by decide) (by decide) ?_
                  refine sw_aload_n (i := 0) dX7_readOrder_112 rfl rfl ?_
                  refine sw_ins (pc2 := 113) rfl rfl ?_
                  refine sw_ic 0 dX7_readOrder_113 ?_
                  refine sw_bi 7 dX7_readOrder_114 (by decide +kernel) ?_
                  refine px_Vx mv_X7_135 (A1_X7_readDigit h1 (w := 0) (m := 7) (by decide) (by decide) c1) rfl rfl (Nat.le_of_ble_eq_true rfl) (Nat.le_of_ble_eq_true rfl) ko_65 (Nat.le_of_ble_eq_true rfl) dX7_readOrder_116 ?_
                  refine sw_if_eq (tgt := 168) dX7_readOrder_119 rfl (fun h9 => absurd h9 (by decide)) (fun _ => ?_)
                  refine sw_aload_n (i := 0) dX7_readOrder_122 rfl rfl ?_
                  refine px_Vx mv_X7_141 (A1_X7_readOther h2 rfl t2 c2 e2) rfl rfl (Nat.le_of_ble_eq_true rfl) (Nat.le_of_ble_eq_true rfl) ko_65 (Nat.le_of_ble_eq_true rfl) dX7_readOrder_123 ?_
                  refine sw_if_eq (tgt := 168) dX7_readOrder_126 rfl (fun h9 => absurd h9 (by decide)) (fun _ => ?_)
                  refine sw_aload_n (i := 0) dX7_readOrder_129 rfl rfl ?_
                  refine sw_ins (pc2 := 130) rfl rfl ?_
                  refine sw_bi 61 dX7_readOrder_130 (by decide +kernel) ?_
                  refine px_Vx mv_X7_145 (A1_X7_takes h3 (c := 61) (by decide) (by decide) c3) rfl rfl (Nat.le_of_ble_eq_true rfl) (Nat.le_of_ble_eq_true rfl) ko_65 (Nat.le_of_ble_eq_true rfl) dX7_readOrder_132 ?_
                  refine sw_if_eq (tgt := 168) dX7_readOrder_135 rfl (fun h9 => absurd h9 (by decide)) (fun _ => ?_)
                  refine sw_aload_n (i := 0) dX7_readOrder_138 rfl rfl ?_
                  refine px_Vx mv_X7_148 (A2_X7_readSum h4 c4 c5) rfl rfl (Nat.le_of_ble_eq_true rfl) (Nat.le_of_ble_eq_true rfl) ko_65 (Nat.le_of_ble_eq_true rfl) dX7_readOrder_139 ?_
                  refine sw_if_eq (tgt := 168) dX7_readOrder_142 rfl (fun h9 => absurd h9 (by decide)) (fun _ => ?_)
                  refine sw_aload_n (i := 0) dX7_readOrder_145 rfl rfl ?_
                  refine sw_bi 47 dX7_readOrder_146 (by decide +kernel) ?_
                  refine sw_ins (pc2 := 148) rfl rfl ?_
                  refine px_Vx mv_X7_145 (A0_X7_takes h6 (c := 47) (by decide) (by decide) c6) rfl rfl (Nat.le_of_ble_eq_true rfl) (Nat.le_of_ble_eq_true rfl) ko_65 (Nat.le_of_ble_eq_true rfl) dX7_readOrder_148 ?_
                  refine sw_if_eq (tgt := 168) dX7_readOrder_151 rfl (fun _ => ?_) (fun h9 => absurd (by decide) h9)
                  refine sw_ic 0 dX7_readOrder_168 ?_
                  exact sw_zreturnE rfl rfl rfl dX7_readOrder_169
                · exact roF_of (by omega) s6 (by decide) (by decide) (if_neg (by omega))
            · have h5 : RT (d2 (d2 (d2 (d2 (d2 (d2 (d2 (d2 (d2 d 65 11 (nI 112)) 65 10 (nI (p + 1))) 73 0 (nI (dn (sg f L (p + 1))))) 65 10 (nI (p + 2))) 73 1 (nI (dn (sg f L (p + 2))))) 65 10 (nI (p + 3))) 65 10 (nI (p + 4))) 73 2 (nI (dn (sg f L (p + 4))))) 65 10 (nI (p + 5))) f L (p + 5) := RT_p (RT_t h4) (by omega)
              by_cases c6 : sg f L (p + 5) = 47
              · have p5 : p + 5 < L := sg_L (f := f) (by omega)
                have s6 : rnS f L (p + 6) = 9 := (rnS_st s5).trans (if_pos c6)
                have h6 : RT (d2 (d2 (d2 (d2 (d2 (d2 (d2 (d2 (d2 (d2 d 65 11 (nI 112)) 65 10 (nI (p + 1))) 73 0 (nI (dn (sg f L (p + 1))))) 65 10 (nI (p + 2))) 73 1 (nI (dn (sg f L (p + 2))))) 65 10 (nI (p + 3))) 65 10 (nI (p + 4))) 73 2 (nI (dn (sg f L (p + 4))))) 65 10 (nI (p + 5))) 65 10 (nI (p + 6))) f L (p + 6) := RT_p h5 (by omega)
                by_cases c7 : 48 ≤ sg f L (p + 6) ∧ sg f L (p + 6) ≤ 48 + 9
                · have p6 : p + 6 < L := sg_L (f := f) (by omega)
                  have s7 : rnS f L (p + 7) = 11 := (rnS_st s6).trans (if_pos c7)
                  have e1 : smO f L p = nI (dn (sg f L (p + 4))) := by
                    unfold smO
                    rw [if_pos (dgt_n c5), dgt_d g4]
                  have e3 : dyO f L p = nI (dn (sg f L (p + 6))) := by
                    unfold dyO
                    rw [if_pos (dgt_n c5), dgt_d c7]
                  refine ⟨d2 (d2 (d2 (d2 (d2 (d2 (d2 (d2 (d2 (d2 (d2 (d2 d 65 11 (nI 112)) 65 10 (nI (p + 1))) 73 0 (nI (dn (sg f L (p + 1))))) 65 10 (nI (p + 2))) 73 1 (nI (dn (sg f L (p + 2))))) 65 10 (nI (p + 3))) 65 10 (nI (p + 4))) 73 2 (nI (dn (sg f L (p + 4))))) 65 10 (nI (p + 5))) 65 10 (nI (p + 6))) 73 3 (nI (dn (sg f L (p + 6))))) 65 10 (nI (p + 7)), p + 7, (RT_p (RT_t h6) (by omega)), (rfr_p (rfr_t (rfr_p (rfr_p (rfr_t (rfr_p (rfr_p (rfr_t (rfr_p (rfr_t (rfr_p (rfr_l (rfr_refl d))))))))))))), Or.inl ⟨op_of pl_X7_readOrder (Nat.le_of_ble_eq_true rfl) ?_, ?_, ?_⟩⟩
                  ·
                    refine sw_aload_n (i := 0) dX7_readOrder_0 rfl rfl ?_
                    refine sw_aload_n (i := 0) dX7_readOrder_1 rfl rfl ?_
                    refine sx_getIE (nI p) h.2.2.2.1 f_X7_128 (by decide) kf_65_10 dX7_readOrder_2 ?_
                    refine sw_aload_n (i := 0) dX7_readOrder_5 rfl rfl ?_
                    refine sx_getIE (nI L) h.2.2.1 f_X7_125 (by decide) kf_65_6 dX7_readOrder_6 ?_
                    refine sw_ic_ge (tgt := 24) dX7_readOrder_9 rfl (fun h9 => absurd h9 (nI_ge hpL (by omega))) (fun _ => ?_)
                    refine sw_aload_n (i := 0) dX7_readOrder_12 rfl rfl ?_
                    refine sw_ins (pc2 := 13) rfl rfl ?_
                    refine sx_getR (q := 70) f_X7_23 (by decide) kr_65_5 dX7_readOrder_13 ?_
                    refine sw_aload_n (i := 0) dX7_readOrder_16 rfl rfl ?_
                    refine sx_getIE (nI p) h.2.2.2.1 f_X7_128 (by decide) kf_65_10 dX7_readOrder_17 ?_
                    refine sx_ialdE (p) (nI 112) ((RT_x h hpL).trans (congrArg nI c0)) rfl rfl (by omega) dX7_readOrder_20 ?_
                    refine sw_goto (tgt := 25) dX7_readOrder_21 rfl ?_
                    refine sx_putI fp_X7_138 (by decide) kf_65_11 dX7_readOrder_25 ?_
                    refine sw_aload_n (i := 0) dX7_readOrder_28 rfl rfl ?_
                    refine sw_dup dX7_readOrder_29 rfl ?_
                    refine sw_ins (pc2 := 30) rfl rfl ?_
                    refine sx_getIE (nI p) ((d2_ne _ _ (Or.inr (by decide))).trans h.2.2.2.1) f_X7_128 (by decide) kf_65_10 dX7_readOrder_30 ?_
                    refine sw_ic 1 dX7_readOrder_33 ?_
                    refine sw_iadd dX7_readOrder_34 ?_
                    refine sw_topE (v := nI (p + 1)) (nI_1 p) ?_
                    refine sx_putI fp_X7_128 (by decide) kf_65_10 dX7_readOrder_35 ?_
                    refine sw_aload_n (i := 0) dX7_readOrder_38 rfl rfl ?_
                    refine sx_getIE (nI 112) rfl f_X7_138 (by decide) kf_65_11 dX7_readOrder_39 ?_
                    refine sw_lookup (off := 70) (tgt := 112) dX7_readOrder_42 (by decide) (by decide) (by decide) ?_
                    refine sw_aload_n (i := 0) dX7_readOrder_112 rfl rfl ?_
                    refine sw_ins (pc2 := 113) rfl rfl ?_
                    refine sw_ic 0 dX7_readOrder_113 ?_
                    refine sw_bi 7 dX7_readOrder_114 (by decide +kernel) ?_
                    refine px_Vx mv_X7_135 (A1_X7_readDigit h1 (w := 0) (m := 7) (by decide) (by decide) c1) rfl rfl (Nat.le_of_ble_eq_true rfl) (Nat.le_of_ble_eq_true rfl) ko_65 (Nat.le_of_ble_eq_true rfl) dX7_readOrder_116 ?_
                    refine sw_if_eq (tgt := 168) dX7_readOrder_119 rfl (fun h9 => absurd h9 (by decide)) (fun _ => ?_)
                    refine sw_aload_n (i := 0) dX7_readOrder_122 rfl rfl ?_
                    refine px_Vx mv_X7_141 (A1_X7_readOther h2 rfl t2 c2 e2) rfl rfl (Nat.le_of_ble_eq_true rfl) (Nat.le_of_ble_eq_true rfl) ko_65 (Nat.le_of_ble_eq_true rfl) dX7_readOrder_123 ?_
                    refine sw_if_eq (tgt := 168) dX7_readOrder_126 rfl (fun h9 => absurd h9 (by decide)) (fun _ => ?_)
                    refine sw_aload_n (i := 0) dX7_readOrder_129 rfl rfl ?_
                    refine sw_ins (pc2 := 130) rfl rfl ?_
                    refine sw_bi 61 dX7_readOrder_130 (by decide +kernel) ?_
                    refine px_Vx mv_X7_145 (A1_X7_takes h3 (c := 61) (by decide) (by decide) c3) rfl rfl (Nat.le_of_ble_eq_true rfl) (Nat.le_of_ble_eq_true rfl) ko_65 (Nat.le_of_ble_eq_true rfl) dX7_readOrder_132 ?_
                    refine sw_if_eq (tgt := 168) dX7_readOrder_135 rfl (fun h9 => absurd h9 (by decide)) (fun _ => ?_)
                    refine sw_aload_n (i := 0) dX7_readOrder_138 rfl rfl ?_
                    refine px_Vx mv_X7_148 (A1_X7_readSum h4 c4 c5) rfl rfl (Nat.le_of_ble_eq_true rfl) (Nat.le_of_ble_eq_true rfl) ko_65 (Nat.le_of_ble_eq_true rfl) dX7_readOrder_139 ?_
                    refine sw_if_eq (tgt := 168) dX7_readOrder_142 rfl (fun h9 => absurd h9 (by decide)) (fun _ => ?_)
                    refine sw_aload_n (i := 0) dX7_readOrder_145 rfl rfl ?_
                    refine sw_bi 47 dX7_readOrder_146 (by decide +kernel) ?_
                    refine sw_ins (pc2 := 148) rfl rfl ?_
                    refine px_Vx mv_X7_145 (A1_X7_takes h5 (c := 47) (by decide) (by decide) c6) rfl rfl (Nat.le_of_ble_eq_true rfl) (Nat.le_of_ble_eq_true rfl) ko_65 (Nat.le_of_ble_eq_true rfl) dX7_readOrder_148 ?_
                    refine sw_if_eq (tgt := 168) dX7_readOrder_151 rfl (fun h9 => absurd h9 (by decide)) (fun _ => ?_)
                    refine sw_aload_n (i := 0) dX7_readOrder_154 rfl rfl ?_
                    refine sw_ic 3 dX7_readOrder_155 ?_
                    refine sw_bi 9 dX7_readOrder_156 (by decide +kernel) ?_
                    refine px_Vx mv_X7_135 (A1_X7_readDigit h6 (w := 3) (m := 9) (by decide) (by decide) c7) rfl rfl (Nat.le_of_ble_eq_true rfl) (Nat.le_of_ble_eq_true rfl) ko_65 (Nat.le_of_ble_eq_true rfl) dX7_readOrder_158 ?_
                    refine sw_if_eq (tgt := 168) dX7_readOrder_161 rfl (fun h9 => absurd h9 (by decide)) (fun _ => ?_)
                    refine sw_ic 1 dX7_readOrder_164 ?_
                    refine sw_ins (pc2 := 165) rfl rfl ?_
                    refine sw_goto (tgt := 169) dX7_readOrder_165 rfl ?_
                    exact sw_zreturnE rfl rfl rfl dX7_readOrder_169
                  · refine ⟨s7, by omega, by omega, fun i i1 i2 => ?_⟩
                    have hi : i = p ∨ i = p + 1 ∨ i = p + 2 ∨ i = p + 3 ∨ i = p + 4 ∨ i = p + 5 ∨ i = p + 6 := by omega
                    rcases hi with hi | hi | hi | hi | hi | hi | hi <;> rw [hi] <;> omega
                  · refine ⟨by rw [c0]; rfl, Or.inr (Or.inr (Or.inl ⟨c0, c1, c2, fun q => e2 q.symm, ⟨_, ?_, ?_, e1⟩, _, ?_, e3⟩)), Or.inr rfl, Or.inr (Or.inr rfl), Or.inr ⟨e1.symm, e3.symm⟩⟩ <;> unfold dn <;> omega
                ·
                  refine ⟨d2 (d2 (d2 (d2 (d2 (d2 (d2 (d2 (d2 (d2 (d2 (d2 d 65 11 (nI 112)) 65 10 (nI (p + 1))) 73 0 (nI (dn (sg f L (p + 1))))) 65 10 (nI (p + 2))) 73 1 (nI (dn (sg f L (p + 2))))) 65 10 (nI (p + 3))) 65 10 (nI (p + 4))) 73 2 (nI (dn (sg f L (p + 4))))) 65 10 (nI (p + 5))) 65 10 (nI (p + 6))) 73 3 (nI 0)) 65 10 (nI (p + 6)), p + 6, (RT_p (RT_t h6) (by omega)), (rfr_p (rfr_t (rfr_p (rfr_p (rfr_t (rfr_p (rfr_p (rfr_t (rfr_p (rfr_t (rfr_p (rfr_l (rfr_refl d))))))))))))), Or.inr ⟨op_of pl_X7_readOrder (Nat.le_of_ble_eq_true rfl) ?_, ?_⟩⟩
                  ·
                    refine sw_aload_n (i := 0) dX7_readOrder_0 rfl rfl ?_
                    refine sw_aload_n (i := 0) dX7_readOrder_1 rfl rfl ?_
                    refine sx_getIE (nI p) h.2.2.2.1 f_X7_128 (by decide) kf_65_10 dX7_readOrder_2 ?_
                    refine sw_aload_n (i := 0) dX7_readOrder_5 rfl rfl ?_
                    refine sx_getIE (nI L) h.2.2.1 f_X7_125 (by decide) kf_65_6 dX7_readOrder_6 ?_
                    refine sw_ic_ge (tgt := 24) dX7_readOrder_9 rfl (fun h9 => absurd h9 (nI_ge hpL (by omega))) (fun _ => ?_)
                    refine sw_aload_n (i := 0) dX7_readOrder_12 rfl rfl ?_
                    refine sw_ins (pc2 := 13) rfl rfl ?_
                    refine sx_getR (q := 70) f_X7_23 (by decide) kr_65_5 dX7_readOrder_13 ?_
                    refine sw_aload_n (i := 0) dX7_readOrder_16 rfl rfl ?_
                    refine sx_getIE (nI p) h.2.2.2.1 f_X7_128 (by decide) kf_65_10 dX7_readOrder_17 ?_
                    refine sx_ialdE (p) (nI 112) ((RT_x h hpL).trans (congrArg nI c0)) rfl rfl (by omega) dX7_readOrder_20 ?_
                    refine sw_goto (tgt := 25) dX7_readOrder_21 rfl ?_
                    refine sx_putI fp_X7_138 (by decide) kf_65_11 dX7_readOrder_25 ?_
                    refine sw_aload_n (i := 0) dX7_readOrder_28 rfl rfl ?_
                    refine sw_dup dX7_readOrder_29 rfl ?_
                    refine sw_ins (pc2 := 30) rfl rfl ?_
                    refine sx_getIE (nI p) ((d2_ne _ _ (Or.inr (by decide))).trans h.2.2.2.1) f_X7_128 (by decide) kf_65_10 dX7_readOrder_30 ?_
                    refine sw_ic 1 dX7_readOrder_33 ?_
                    refine sw_iadd dX7_readOrder_34 ?_
                    refine sw_topE (v := nI (p + 1)) (nI_1 p) ?_
                    refine sx_putI fp_X7_128 (by decide) kf_65_10 dX7_readOrder_35 ?_
                    refine sw_aload_n (i := 0) dX7_readOrder_38 rfl rfl ?_
                    refine sx_getIE (nI 112) rfl f_X7_138 (by decide) kf_65_11 dX7_readOrder_39 ?_
                    refine sw_lookup (off := 70) (tgt := 112) dX7_readOrder_42 (by decide) (by decide) (by decide) ?_
                    refine sw_aload_n (i := 0) dX7_readOrder_112 rfl rfl ?_
                    refine sw_ins (pc2 := 113) rfl rfl ?_
                    refine sw_ic 0 dX7_readOrder_113 ?_
                    refine sw_bi 7 dX7_readOrder_114 (by decide +kernel) ?_
                    refine px_Vx mv_X7_135 (A1_X7_readDigit h1 (w := 0) (m := 7) (by decide) (by decide) c1) rfl rfl (Nat.le_of_ble_eq_true rfl) (Nat.le_of_ble_eq_true rfl) ko_65 (Nat.le_of_ble_eq_true rfl) dX7_readOrder_116 ?_
                    refine sw_if_eq (tgt := 168) dX7_readOrder_119 rfl (fun h9 => absurd h9 (by decide)) (fun _ => ?_)
                    refine sw_aload_n (i := 0) dX7_readOrder_122 rfl rfl ?_
                    refine px_Vx mv_X7_141 (A1_X7_readOther h2 rfl t2 c2 e2) rfl rfl (Nat.le_of_ble_eq_true rfl) (Nat.le_of_ble_eq_true rfl) ko_65 (Nat.le_of_ble_eq_true rfl) dX7_readOrder_123 ?_
                    refine sw_if_eq (tgt := 168) dX7_readOrder_126 rfl (fun h9 => absurd h9 (by decide)) (fun _ => ?_)
                    refine sw_aload_n (i := 0) dX7_readOrder_129 rfl rfl ?_
                    refine sw_ins (pc2 := 130) rfl rfl ?_
                    refine sw_bi 61 dX7_readOrder_130 (by decide +kernel) ?_
                    refine px_Vx mv_X7_145 (A1_X7_takes h3 (c := 61) (by decide) (by decide) c3) rfl rfl (Nat.le_of_ble_eq_true rfl) (Nat.le_of_ble_eq_true rfl) ko_65 (Nat.le_of_ble_eq_true rfl) dX7_readOrder_132 ?_
                    refine sw_if_eq (tgt := 168) dX7_readOrder_135 rfl (fun h9 => absurd h9 (by decide)) (fun _ => ?_)
                    refine sw_aload_n (i := 0) dX7_readOrder_138 rfl rfl ?_
                    refine px_Vx mv_X7_148 (A1_X7_readSum h4 c4 c5) rfl rfl (Nat.le_of_ble_eq_true rfl) (Nat.le_of_ble_eq_true rfl) ko_65 (Nat.le_of_ble_eq_true rfl) dX7_readOrder_139 ?_
                    refine sw_if_eq (tgt := 168) dX7_readOrder_142 rfl (fun h9 => absurd h9 (by decide)) (fun _ => ?_)
                    refine sw_aload_n (i := 0) dX7_readOrder_145 rfl rfl ?_
                    refine sw_bi 47 dX7_readOrder_146 (by decide +kernel) ?_
                    refine sw_ins (pc2 := 148) rfl rfl ?_
                    refine px_Vx mv_X7_145 (A1_X7_takes h5 (c := 47) (by decide) (by decide) c6) rfl rfl (Nat.le_of_ble_eq_true rfl) (Nat.le_of_ble_eq_true rfl) ko_65 (Nat.le_of_ble_eq_true rfl) dX7_readOrder_148 ?_
                    refine sw_if_eq (tgt := 168) dX7_readOrder_151 rfl (fun h9 => absurd h9 (by decide)) (fun _ => ?_)
                    refine sw_aload_n (i := 0) dX7_readOrder_154 rfl rfl ?_
                    refine sw_ic 3 dX7_readOrder_155 ?_
                    refine sw_bi 9 dX7_readOrder_156 (by decide +kernel) ?_
                    refine px_Vx mv_X7_135 (A0_X7_readDigit h6 (w := 3) (m := 9) (by decide) (by decide) c7) rfl rfl (Nat.le_of_ble_eq_true rfl) (Nat.le_of_ble_eq_true rfl) ko_65 (Nat.le_of_ble_eq_true rfl) dX7_readOrder_158 ?_
                    refine sw_if_eq (tgt := 168) dX7_readOrder_161 rfl (fun _ => ?_) (fun h9 => absurd (by decide) h9)
                    refine sw_ic 0 dX7_readOrder_168 ?_
                    refine sw_ins (pc2 := 169) rfl rfl ?_
                    exact sw_zreturnE rfl rfl rfl dX7_readOrder_169
                  · exact roF_of (by omega) s6 (by decide) (by decide) (if_neg c7)
              ·
                refine ⟨d2 (d2 (d2 (d2 (d2 (d2 (d2 (d2 (d2 (d2 d 65 11 (nI 112)) 65 10 (nI (p + 1))) 73 0 (nI (dn (sg f L (p + 1))))) 65 10 (nI (p + 2))) 73 1 (nI (dn (sg f L (p + 2))))) 65 10 (nI (p + 3))) 65 10 (nI (p + 4))) 73 2 (nI (dn (sg f L (p + 4))))) 65 10 (nI (p + 5))) 65 10 (nI (p + 5)), p + 5, (RT_p h5 (by omega)), (rfr_p (rfr_p (rfr_t (rfr_p (rfr_p (rfr_t (rfr_p (rfr_t (rfr_p (rfr_l (rfr_refl d))))))))))), Or.inr ⟨op_of pl_X7_readOrder (Nat.le_of_ble_eq_true rfl) ?_, ?_⟩⟩
                ·
                  refine sw_aload_n (i := 0) dX7_readOrder_0 rfl rfl ?_
                  refine sw_aload_n (i := 0) dX7_readOrder_1 rfl rfl ?_
                  refine sx_getIE (nI p) h.2.2.2.1 f_X7_128 (by decide) kf_65_10 dX7_readOrder_2 ?_
                  refine sw_aload_n (i := 0) dX7_readOrder_5 rfl rfl ?_
                  refine sx_getIE (nI L) h.2.2.1 f_X7_125 (by decide) kf_65_6 dX7_readOrder_6 ?_
                  refine sw_ic_ge (tgt := 24) dX7_readOrder_9 rfl (fun h9 => absurd h9 (nI_ge hpL (by omega))) (fun _ => ?_)
                  refine sw_aload_n (i := 0) dX7_readOrder_12 rfl rfl ?_
                  refine sw_ins (pc2 := 13) rfl rfl ?_
                  refine sx_getR (q := 70) f_X7_23 (by decide) kr_65_5 dX7_readOrder_13 ?_
                  refine sw_aload_n (i := 0) dX7_readOrder_16 rfl rfl ?_
                  refine sx_getIE (nI p) h.2.2.2.1 f_X7_128 (by decide) kf_65_10 dX7_readOrder_17 ?_
                  refine sx_ialdE (p) (nI 112) ((RT_x h hpL).trans (congrArg nI c0)) rfl rfl (by omega) dX7_readOrder_20 ?_
                  refine sw_goto (tgt := 25) dX7_readOrder_21 rfl ?_
                  refine sx_putI fp_X7_138 (by decide) kf_65_11 dX7_readOrder_25 ?_
                  refine sw_aload_n (i := 0) dX7_readOrder_28 rfl rfl ?_
                  refine sw_dup dX7_readOrder_29 rfl ?_
                  refine sw_ins (pc2 := 30) rfl rfl ?_
                  refine sx_getIE (nI p) ((d2_ne _ _ (Or.inr (by decide))).trans h.2.2.2.1) f_X7_128 (by decide) kf_65_10 dX7_readOrder_30 ?_
                  refine sw_ic 1 dX7_readOrder_33 ?_
                  refine sw_iadd dX7_readOrder_34 ?_
                  refine sw_topE (v := nI (p + 1)) (nI_1 p) ?_
                  refine sx_putI fp_X7_128 (by decide) kf_65_10 dX7_readOrder_35 ?_
                  refine sw_aload_n (i := 0) dX7_readOrder_38 rfl rfl ?_
                  refine sx_getIE (nI 112) rfl f_X7_138 (by decide) kf_65_11 dX7_readOrder_39 ?_
                  refine sw_lookup (off := 70) (tgt := 112) dX7_readOrder_42 (by decide) (by decide) (by decide) ?_
                  refine sw_aload_n (i := 0) dX7_readOrder_112 rfl rfl ?_
                  refine sw_ins (pc2 := 113) rfl rfl ?_
                  refine sw_ic 0 dX7_readOrder_113 ?_
                  refine sw_bi 7 dX7_readOrder_114 (by decide +kernel) ?_
                  refine px_Vx mv_X7_135 (A1_X7_readDigit h1 (w := 0) (m := 7) (by decide) (by decide) c1) rfl rfl (Nat.le_of_ble_eq_true rfl) (Nat.le_of_ble_eq_true rfl) ko_65 (Nat.le_of_ble_eq_true rfl) dX7_readOrder_116 ?_
                  refine sw_if_eq (tgt := 168) dX7_readOrder_119 rfl (fun h9 => absurd h9 (by decide)) (fun _ => ?_)
                  refine sw_aload_n (i := 0) dX7_readOrder_122 rfl rfl ?_
                  refine px_Vx mv_X7_141 (A1_X7_readOther h2 rfl t2 c2 e2) rfl rfl (Nat.le_of_ble_eq_true rfl) (Nat.le_of_ble_eq_true rfl) ko_65 (Nat.le_of_ble_eq_true rfl) dX7_readOrder_123 ?_
                  refine sw_if_eq (tgt := 168) dX7_readOrder_126 rfl (fun h9 => absurd h9 (by decide)) (fun _ => ?_)
                  refine sw_aload_n (i := 0) dX7_readOrder_129 rfl rfl ?_
                  refine sw_ins (pc2 := 130) rfl rfl ?_
                  refine sw_bi 61 dX7_readOrder_130 (by decide +kernel) ?_
                  refine px_Vx mv_X7_145 (A1_X7_takes h3 (c := 61) (by decide) (by decide) c3) rfl rfl (Nat.le_of_ble_eq_true rfl) (Nat.le_of_ble_eq_true rfl) ko_65 (Nat.le_of_ble_eq_true rfl) dX7_readOrder_132 ?_
                  refine sw_if_eq (tgt := 168) dX7_readOrder_135 rfl (fun h9 => absurd h9 (by decide)) (fun _ => ?_)
                  refine sw_aload_n (i := 0) dX7_readOrder_138 rfl rfl ?_
                  refine px_Vx mv_X7_148 (A1_X7_readSum h4 c4 c5) rfl rfl (Nat.le_of_ble_eq_true rfl) (Nat.le_of_ble_eq_true rfl) ko_65 (Nat.le_of_ble_eq_true rfl) dX7_readOrder_139 ?_
                  refine sw_if_eq (tgt := 168) dX7_readOrder_142 rfl (fun h9 => absurd h9 (by decide)) (fun _ => ?_)
                  refine sw_aload_n (i := 0) dX7_readOrder_145 rfl rfl ?_
                  refine sw_bi 47 dX7_readOrder_146 (by decide +kernel) ?_
                  refine sw_ins (pc2 := 148) rfl rfl ?_
                  refine px_Vx mv_X7_145 (A0_X7_takes h5 (c := 47) (by decide) (by decide) c6) rfl rfl (Nat.le_of_ble_eq_true rfl) (Nat.le_of_ble_eq_true rfl) ko_65 (Nat.le_of_ble_eq_true rfl) dX7_readOrder_148 ?_
                  refine sw_if_eq (tgt := 168) dX7_readOrder_151 rfl (fun _ => ?_) (fun h9 => absurd (by decide) h9)
                  refine sw_ic 0 dX7_readOrder_168 ?_
                  exact sw_zreturnE rfl rfl rfl dX7_readOrder_169
                · exact roF_of (by omega) s5 (by decide) (by decide) ((if_neg c6).trans (if_neg c5))
          ·
            refine ⟨d2 (d2 (d2 (d2 (d2 (d2 (d2 d 65 11 (nI 112)) 65 10 (nI (p + 1))) 73 0 (nI (dn (sg f L (p + 1))))) 65 10 (nI (p + 2))) 73 1 (nI (dn (sg f L (p + 2))))) 65 10 (nI (p + 3))) 65 10 (nI (p + 4)), p + 4, h4, (rfr_p (rfr_p (rfr_t (rfr_p (rfr_t (rfr_p (rfr_l (rfr_refl d)))))))), Or.inr ⟨op_of pl_X7_readOrder (Nat.le_of_ble_eq_true rfl) ?_, ?_⟩⟩
            ·
              refine sw_aload_n (i := 0) dX7_readOrder_0 rfl rfl ?_
              refine sw_aload_n (i := 0) dX7_readOrder_1 rfl rfl ?_
              refine sx_getIE (nI p) h.2.2.2.1 f_X7_128 (by decide) kf_65_10 dX7_readOrder_2 ?_
              refine sw_aload_n (i := 0) dX7_readOrder_5 rfl rfl ?_
              refine sx_getIE (nI L) h.2.2.1 f_X7_125 (by decide) kf_65_6 dX7_readOrder_6 ?_
              refine sw_ic_ge (tgt := 24) dX7_readOrder_9 rfl (fun h9 => absurd h9 (nI_ge hpL (by omega))) (fun _ => ?_)
              refine sw_aload_n (i := 0) dX7_readOrder_12 rfl rfl ?_
              refine sw_ins (pc2 := 13) rfl rfl ?_
              refine sx_getR (q := 70) f_X7_23 (by decide) kr_65_5 dX7_readOrder_13 ?_
              refine sw_aload_n (i := 0) dX7_readOrder_16 rfl rfl ?_
              refine sx_getIE (nI p) h.2.2.2.1 f_X7_128 (by decide) kf_65_10 dX7_readOrder_17 ?_
              refine sx_ialdE (p) (nI 112) ((RT_x h hpL).trans (congrArg nI c0)) rfl rfl (by omega) dX7_readOrder_20 ?_
              refine sw_goto (tgt := 25) dX7_readOrder_21 rfl ?_
              refine sx_putI fp_X7_138 (by decide) kf_65_11 dX7_readOrder_25 ?_
              refine sw_aload_n (i := 0) dX7_readOrder_28 rfl rfl ?_
              refine sw_dup dX7_readOrder_29 rfl ?_
              refine sw_ins (pc2 := 30) rfl rfl ?_
              refine sx_getIE (nI p) ((d2_ne _ _ (Or.inr (by decide))).trans h.2.2.2.1) f_X7_128 (by decide) kf_65_10 dX7_readOrder_30 ?_
              refine sw_ic 1 dX7_readOrder_33 ?_
              refine sw_iadd dX7_readOrder_34 ?_
              refine sw_topE (v := nI (p + 1)) (nI_1 p) ?_
              refine sx_putI fp_X7_128 (by decide) kf_65_10 dX7_readOrder_35 ?_
              refine sw_aload_n (i := 0) dX7_readOrder_38 rfl rfl ?_
              refine sx_getIE (nI 112) rfl f_X7_138 (by decide) kf_65_11 dX7_readOrder_39 ?_
              refine sw_lookup (off := 70) (tgt := 112) dX7_readOrder_42 (by decide) (by decide) (by decide) ?_
              refine sw_aload_n (i := 0) dX7_readOrder_112 rfl rfl ?_
              refine sw_ins (pc2 := 113) rfl rfl ?_
              refine sw_ic 0 dX7_readOrder_113 ?_
              refine sw_bi 7 dX7_readOrder_114 (by decide +kernel) ?_
              refine px_Vx mv_X7_135 (A1_X7_readDigit h1 (w := 0) (m := 7) (by decide) (by decide) c1) rfl rfl (Nat.le_of_ble_eq_true rfl) (Nat.le_of_ble_eq_true rfl) ko_65 (Nat.le_of_ble_eq_true rfl) dX7_readOrder_116 ?_
              refine sw_if_eq (tgt := 168) dX7_readOrder_119 rfl (fun h9 => absurd h9 (by decide)) (fun _ => ?_)
              refine sw_aload_n (i := 0) dX7_readOrder_122 rfl rfl ?_
              refine px_Vx mv_X7_141 (A1_X7_readOther h2 rfl t2 c2 e2) rfl rfl (Nat.le_of_ble_eq_true rfl) (Nat.le_of_ble_eq_true rfl) ko_65 (Nat.le_of_ble_eq_true rfl) dX7_readOrder_123 ?_
              refine sw_if_eq (tgt := 168) dX7_readOrder_126 rfl (fun h9 => absurd h9 (by decide)) (fun _ => ?_)
              refine sw_aload_n (i := 0) dX7_readOrder_129 rfl rfl ?_
              refine sw_ins (pc2 := 130) rfl rfl ?_
              refine sw_bi 61 dX7_readOrder_130 (by decide +kernel) ?_
              refine px_Vx mv_X7_145 (A1_X7_takes h3 (c := 61) (by decide) (by decide) c3) rfl rfl (Nat.le_of_ble_eq_true rfl) (Nat.le_of_ble_eq_true rfl) ko_65 (Nat.le_of_ble_eq_true rfl) dX7_readOrder_132 ?_
              refine sw_if_eq (tgt := 168) dX7_readOrder_135 rfl (fun h9 => absurd h9 (by decide)) (fun _ => ?_)
              refine sw_aload_n (i := 0) dX7_readOrder_138 rfl rfl ?_
              refine px_Vx mv_X7_148 (A0_X7_readSum h4 c4) rfl rfl (Nat.le_of_ble_eq_true rfl) (Nat.le_of_ble_eq_true rfl) ko_65 (Nat.le_of_ble_eq_true rfl) dX7_readOrder_139 ?_
              refine sw_if_eq (tgt := 168) dX7_readOrder_142 rfl (fun _ => ?_) (fun h9 => absurd (by decide) h9)
              refine sw_ic 0 dX7_readOrder_168 ?_
              exact sw_zreturnE rfl rfl rfl dX7_readOrder_169
            · exact roF_of (by omega) s4 (by decide) (by decide) (if_neg c4)
        ·
          refine ⟨d2 (d2 (d2 (d2 (d2 (d2 (d2 d 65 11 (nI 112)) 65 10 (nI (p + 1))) 73 0 (nI (dn (sg f L (p + 1))))) 65 10 (nI (p + 2))) 73 1 (nI (dn (sg f L (p + 2))))) 65 10 (nI (p + 3))) 65 10 (nI (p + 3)), p + 3, (RT_p h3 (by omega)), (rfr_p (rfr_p (rfr_t (rfr_p (rfr_t (rfr_p (rfr_l (rfr_refl d)))))))), Or.inr ⟨op_of pl_X7_readOrder (Nat.le_of_ble_eq_true rfl) ?_, ?_⟩⟩
          ·
            refine sw_aload_n (i := 0) dX7_readOrder_0 rfl rfl ?_
            refine sw_aload_n (i := 0) dX7_readOrder_1 rfl rfl ?_
            refine sx_getIE (nI p) h.2.2.2.1 f_X7_128 (by decide) kf_65_10 dX7_readOrder_2 ?_
            refine sw_aload_n (i := 0) dX7_readOrder_5 rfl rfl ?_
            refine sx_getIE (nI L) h.2.2.1 f_X7_125 (by decide) kf_65_6 dX7_readOrder_6 ?_
            refine sw_ic_ge (tgt := 24) dX7_readOrder_9 rfl (fun h9 => absurd h9 (nI_ge hpL (by omega))) (fun _ => ?_)
            refine sw_aload_n (i := 0) dX7_readOrder_12 rfl rfl ?_
            refine sw_ins (pc2 := 13) rfl rfl ?_
            refine sx_getR (q := 70) f_X7_23 (by decide) kr_65_5 dX7_readOrder_13 ?_
            refine sw_aload_n (i := 0) dX7_readOrder_16 rfl rfl ?_
            refine sx_getIE (nI p) h.2.2.2.1 f_X7_128 (by decide) kf_65_10 dX7_readOrder_17 ?_
            refine sx_ialdE (p) (nI 112) ((RT_x h hpL).trans (congrArg nI c0)) rfl rfl (by omega) dX7_readOrder_20 ?_
            refine sw_goto (tgt := 25) dX7_readOrder_21 rfl ?_
            refine sx_putI fp_X7_138 (by decide) kf_65_11 dX7_readOrder_25 ?_
            refine sw_aload_n (i := 0) dX7_readOrder_28 rfl rfl ?_
            refine sw_dup dX7_readOrder_29 rfl ?_
            refine sw_ins (pc2 := 30) rfl rfl ?_
            refine sx_getIE (nI p) ((d2_ne _ _ (Or.inr (by decide))).trans h.2.2.2.1) f_X7_128 (by decide) kf_65_10 dX7_readOrder_30 ?_
            refine sw_ic 1 dX7_readOrder_33 ?_
            refine sw_iadd dX7_readOrder_34 ?_
            refine sw_topE (v := nI (p + 1)) (nI_1 p) ?_
            refine sx_putI fp_X7_128 (by decide) kf_65_10 dX7_readOrder_35 ?_
            refine sw_aload_n (i := 0) dX7_readOrder_38 rfl rfl ?_
            refine sx_getIE (nI 112) rfl f_X7_138 (by decide) kf_65_11 dX7_readOrder_39 ?_
            refine sw_lookup (off := 70) (tgt := 112) dX7_readOrder_42 (by decide) (by decide) (by decide) ?_
            refine sw_aload_n (i := 0) dX7_readOrder_112 rfl rfl ?_
            refine sw_ins (pc2 := 113) rfl rfl ?_
            refine sw_ic 0 dX7_readOrder_113 ?_
            refine sw_bi 7 dX7_readOrder_114 (by decide +kernel) ?_
            refine px_Vx mv_X7_135 (A1_X7_readDigit h1 (w := 0) (m := 7) (by decide) (by decide) c1) rfl rfl (Nat.le_of_ble_eq_true rfl) (Nat.le_of_ble_eq_true rfl) ko_65 (Nat.le_of_ble_eq_true rfl) dX7_readOrder_116 ?_
            refine sw_if_eq (tgt := 168) dX7_readOrder_119 rfl (fun h9 => absurd h9 (by decide)) (fun _ => ?_)
            refine sw_aload_n (i := 0) dX7_readOrder_122 rfl rfl ?_
            refine px_Vx mv_X7_141 (A1_X7_readOther h2 rfl t2 c2 e2) rfl rfl (Nat.le_of_ble_eq_true rfl) (Nat.le_of_ble_eq_true rfl) ko_65 (Nat.le_of_ble_eq_true rfl) dX7_readOrder_123 ?_
            refine sw_if_eq (tgt := 168) dX7_readOrder_126 rfl (fun h9 => absurd h9 (by decide)) (fun _ => ?_)
            refine sw_aload_n (i := 0) dX7_readOrder_129 rfl rfl ?_
            refine sw_ins (pc2 := 130) rfl rfl ?_
            refine sw_bi 61 dX7_readOrder_130 (by decide +kernel) ?_
            refine px_Vx mv_X7_145 (A0_X7_takes h3 (c := 61) (by decide) (by decide) c3) rfl rfl (Nat.le_of_ble_eq_true rfl) (Nat.le_of_ble_eq_true rfl) ko_65 (Nat.le_of_ble_eq_true rfl) dX7_readOrder_132 ?_
            refine sw_if_eq (tgt := 168) dX7_readOrder_135 rfl (fun _ => ?_) (fun h9 => absurd (by decide) h9)
            refine sw_ic 0 dX7_readOrder_168 ?_
            exact sw_zreturnE rfl rfl rfl dX7_readOrder_169
          · exact roF_of (by omega) s3 (by decide) (by decide) (if_neg (by omega))
      ·
        refine ⟨d2 (d2 (d2 (d2 (d2 (d2 d 65 11 (nI 112)) 65 10 (nI (p + 1))) 73 0 (nI (dn (sg f L (p + 1))))) 65 10 (nI (p + 2))) 73 1 (nI 0)) 65 10 (nI (p + 2)), p + 2, (RT_p (RT_t h2) (by omega)), (rfr_p (rfr_t (rfr_p (rfr_t (rfr_p (rfr_l (rfr_refl d))))))), Or.inr ⟨op_of pl_X7_readOrder (Nat.le_of_ble_eq_true rfl) ?_, ?_⟩⟩
        ·
          refine sw_aload_n (i := 0) dX7_readOrder_0 rfl rfl ?_
          refine sw_aload_n (i := 0) dX7_readOrder_1 rfl rfl ?_
          refine sx_getIE (nI p) h.2.2.2.1 f_X7_128 (by decide) kf_65_10 dX7_readOrder_2 ?_
          refine sw_aload_n (i := 0) dX7_readOrder_5 rfl rfl ?_
          refine sx_getIE (nI L) h.2.2.1 f_X7_125 (by decide) kf_65_6 dX7_readOrder_6 ?_
          refine sw_ic_ge (tgt := 24) dX7_readOrder_9 rfl (fun h9 => absurd h9 (nI_ge hpL (by omega))) (fun _ => ?_)
          refine sw_aload_n (i := 0) dX7_readOrder_12 rfl rfl ?_
          refine sw_ins (pc2 := 13) rfl rfl ?_
          refine sx_getR (q := 70) f_X7_23 (by decide) kr_65_5 dX7_readOrder_13 ?_
          refine sw_aload_n (i := 0) dX7_readOrder_16 rfl rfl ?_
          refine sx_getIE (nI p) h.2.2.2.1 f_X7_128 (by decide) kf_65_10 dX7_readOrder_17 ?_
          refine sx_ialdE (p) (nI 112) ((RT_x h hpL).trans (congrArg nI c0)) rfl rfl (by omega) dX7_readOrder_20 ?_
          refine sw_goto (tgt := 25) dX7_readOrder_21 rfl ?_
          refine sx_putI fp_X7_138 (by decide) kf_65_11 dX7_readOrder_25 ?_
          refine sw_aload_n (i := 0) dX7_readOrder_28 rfl rfl ?_
          refine sw_dup dX7_readOrder_29 rfl ?_
          refine sw_ins (pc2 := 30) rfl rfl ?_
          refine sx_getIE (nI p) ((d2_ne _ _ (Or.inr (by decide))).trans h.2.2.2.1) f_X7_128 (by decide) kf_65_10 dX7_readOrder_30 ?_
          refine sw_ic 1 dX7_readOrder_33 ?_
          refine sw_iadd dX7_readOrder_34 ?_
          refine sw_topE (v := nI (p + 1)) (nI_1 p) ?_
          refine sx_putI fp_X7_128 (by decide) kf_65_10 dX7_readOrder_35 ?_
          refine sw_aload_n (i := 0) dX7_readOrder_38 rfl rfl ?_
          refine sx_getIE (nI 112) rfl f_X7_138 (by decide) kf_65_11 dX7_readOrder_39 ?_
          refine sw_lookup (off := 70) (tgt := 112) dX7_readOrder_42 (by decide) (by decide) (by decide) ?_
          refine sw_aload_n (i := 0) dX7_readOrder_112 rfl rfl ?_
          refine sw_ins (pc2 := 113) rfl rfl ?_
          refine sw_ic 0 dX7_readOrder_113 ?_
          refine sw_bi 7 dX7_readOrder_114 (by decide +kernel) ?_
          refine px_Vx mv_X7_135 (A1_X7_readDigit h1 (w := 0) (m := 7) (by decide) (by decide) c1) rfl rfl (Nat.le_of_ble_eq_true rfl) (Nat.le_of_ble_eq_true rfl) ko_65 (Nat.le_of_ble_eq_true rfl) dX7_readOrder_116 ?_
          refine sw_if_eq (tgt := 168) dX7_readOrder_119 rfl (fun h9 => absurd h9 (by decide)) (fun _ => ?_)
          refine sw_aload_n (i := 0) dX7_readOrder_122 rfl rfl ?_
          refine px_Vx mv_X7_141 (A0_X7_readOther h2 rfl t2 c2 e2) rfl rfl (Nat.le_of_ble_eq_true rfl) (Nat.le_of_ble_eq_true rfl) ko_65 (Nat.le_of_ble_eq_true rfl) dX7_readOrder_123 ?_
          refine sw_if_eq (tgt := 168) dX7_readOrder_126 rfl (fun _ => ?_) (fun h9 => absurd (by decide) h9)
          refine sw_ic 0 dX7_readOrder_168 ?_
          refine sw_ins (pc2 := 169) rfl rfl ?_
          exact sw_zreturnE rfl rfl rfl dX7_readOrder_169
        · exact roF_of (by omega) s2 (by decide) (by decide) ((if_neg (by rw [sgp_s]; exact e2)).trans (if_neg c2))
  ·
    refine ⟨d2 (d2 (d2 (d2 d 65 11 (nI 112)) 65 10 (nI (p + 1))) 73 0 (nI 0)) 65 10 (nI (p + 1)), p + 1, (RT_p (RT_t h1) (by omega)), (rfr_p (rfr_t (rfr_p (rfr_l (rfr_refl d))))), Or.inr ⟨op_of pl_X7_readOrder (Nat.le_of_ble_eq_true rfl) ?_, ?_⟩⟩
    ·
      refine sw_aload_n (i := 0) dX7_readOrder_0 rfl rfl ?_
      refine sw_aload_n (i := 0) dX7_readOrder_1 rfl rfl ?_
      refine sx_getIE (nI p) h.2.2.2.1 f_X7_128 (by decide) kf_65_10 dX7_readOrder_2 ?_
      refine sw_aload_n (i := 0) dX7_readOrder_5 rfl rfl ?_
      refine sx_getIE (nI L) h.2.2.1 f_X7_125 (by decide) kf_65_6 dX7_readOrder_6 ?_
      refine sw_ic_ge (tgt := 24) dX7_readOrder_9 rfl (fun h9 => absurd h9 (nI_ge hpL (by omega))) (fun _ => ?_)
      refine sw_aload_n (i := 0) dX7_readOrder_12 rfl rfl ?_
      refine sw_ins (pc2 := 13) rfl rfl ?_
      refine sx_getR (q := 70) f_X7_23 (by decide) kr_65_5 dX7_readOrder_13 ?_
      refine sw_aload_n (i := 0) dX7_readOrder_16 rfl rfl ?_
      refine sx_getIE (nI p) h.2.2.2.1 f_X7_128 (by decide) kf_65_10 dX7_readOrder_17 ?_
      refine sx_ialdE (p) (nI 112) ((RT_x h hpL).trans (congrArg nI c0)) rfl rfl (by omega) dX7_readOrder_20 ?_
      refine sw_goto (tgt := 25) dX7_readOrder_21 rfl ?_
      refine sx_putI fp_X7_138 (by decide) kf_65_11 dX7_readOrder_25 ?_
      refine sw_aload_n (i := 0) dX7_readOrder_28 rfl rfl ?_
      refine sw_dup dX7_readOrder_29 rfl ?_
      refine sw_ins (pc2 := 30) rfl rfl ?_
      refine sx_getIE (nI p) ((d2_ne _ _ (Or.inr (by decide))).trans h.2.2.2.1) f_X7_128 (by decide) kf_65_10 dX7_readOrder_30 ?_
      refine sw_ic 1 dX7_readOrder_33 ?_
      refine sw_iadd dX7_readOrder_34 ?_
      refine sw_topE (v := nI (p + 1)) (nI_1 p) ?_
      refine sx_putI fp_X7_128 (by decide) kf_65_10 dX7_readOrder_35 ?_
      refine sw_aload_n (i := 0) dX7_readOrder_38 rfl rfl ?_
      refine sx_getIE (nI 112) rfl f_X7_138 (by decide) kf_65_11 dX7_readOrder_39 ?_
      refine sw_lookup (off := 70) (tgt := 112) dX7_readOrder_42 (by decide) (by decide) (by decide) ?_
      refine sw_aload_n (i := 0) dX7_readOrder_112 rfl rfl ?_
      refine sw_ins (pc2 := 113) rfl rfl ?_
      refine sw_ic 0 dX7_readOrder_113 ?_
      refine sw_bi 7 dX7_readOrder_114 (by decide +kernel) ?_
      refine px_Vx mv_X7_135 (A0_X7_readDigit h1 (w := 0) (m := 7) (by decide) (by decide) c1) rfl rfl (Nat.le_of_ble_eq_true rfl) (Nat.le_of_ble_eq_true rfl) ko_65 (Nat.le_of_ble_eq_true rfl) dX7_readOrder_116 ?_
      refine sw_if_eq (tgt := 168) dX7_readOrder_119 rfl (fun _ => ?_) (fun h9 => absurd (by decide) h9)
      refine sw_ic 0 dX7_readOrder_168 ?_
      exact sw_zreturnE rfl rfl rfl dX7_readOrder_169
    · exact roF_of (by omega) s1 (by decide) (by decide) (if_neg c1)
set_option maxRecDepth 100000 in
set_option maxHeartbeats 4000000 in
theorem Bd_X7_readOrder {d : Nat → Nat → Int32} {r : Nat → Nat → Option Nat} {J : Nat → Nat → Int64} {f : Nat → Int32} {L p : Nat} (h : RT d f L p) (hp : p ≤ L) (hs : rnS f L p = 0) (c107 : ¬ sg f L p = 107) (c112 : ¬ sg f L p = 112) (c115 : ¬ sg f L p = 115) (c120 : ¬ sg f L p = 120) : ∃ d1 q, RT d1 f L q ∧ rfr d d1 ∧ ((OP kX7_readOrder yX7_readOrder 4 [.ref 65] d r J (some (.int (nI 1))) d1 r J ∧ roT f L p q ∧ tld d1 f L p) ∨ (OP kX7_readOrder yX7_readOrder 4 [.ref 65] d r J (some (.int (nI 0))) d1 r J ∧ roF f L q)) := by
  have h60 := RT_60 h
  have hc := sg_lt h.1 p
  have ez : (nI (sg f L p)).toInt = (sg f L p : Int) := nI_toInt (by omega)
  have hf : roF f L p := roF_of hp hs (by decide) (by decide) (by show into (sg f L p) = 12; unfold into; rw [if_neg c107, if_neg c112, if_neg c115, if_neg c120])
  by_cases hpL : p < L
  ·
    refine ⟨d2 (d2 (d2 d 65 11 (nI (sg f L p))) 65 10 (nI (p + 1))) 65 10 (nI p), p, (RT_p (RT_p (RT_l h) (by omega)) (by omega)), (rfr_p (rfr_p (rfr_l (rfr_refl d)))), Or.inr ⟨op_of pl_X7_readOrder (Nat.le_of_ble_eq_true rfl) ?_, ?_⟩⟩
    ·
      refine sw_aload_n (i := 0) dX7_readOrder_0 rfl rfl ?_
      refine sw_aload_n (i := 0) dX7_readOrder_1 rfl rfl ?_
      refine sx_getIE (nI p) h.2.2.2.1 f_X7_128 (by decide) kf_65_10 dX7_readOrder_2 ?_
      refine sw_aload_n (i := 0) dX7_readOrder_5 rfl rfl ?_
      refine sx_getIE (nI L) h.2.2.1 f_X7_125 (by decide) kf_65_6 dX7_readOrder_6 ?_
      refine sw_ic_ge (tgt := 24) dX7_readOrder_9 rfl (fun h9 => absurd h9 (nI_ge hpL (by omega))) (fun _ => ?_)
      refine sw_aload_n (i := 0) dX7_readOrder_12 rfl rfl ?_
      refine sw_ins (pc2 := 13) rfl rfl ?_
      refine sx_getR (q := 70) f_X7_23 (by decide) kr_65_5 dX7_readOrder_13 ?_
      refine sw_aload_n (i := 0) dX7_readOrder_16 rfl rfl ?_
      refine sx_getIE (nI p) h.2.2.2.1 f_X7_128 (by decide) kf_65_10 dX7_readOrder_17 ?_
      refine sx_ialdE (p) (nI (sg f L p)) (RT_x h hpL) rfl rfl (by omega) dX7_readOrder_20 ?_
      refine sw_goto (tgt := 25) dX7_readOrder_21 rfl ?_
      refine sx_putI fp_X7_138 (by decide) kf_65_11 dX7_readOrder_25 ?_
      refine sw_aload_n (i := 0) dX7_readOrder_28 rfl rfl ?_
      refine sw_dup dX7_readOrder_29 rfl ?_
      refine sw_ins (pc2 := 30) rfl rfl ?_
      refine sx_getIE (nI p) ((d2_ne _ _ (Or.inr (by decide))).trans h.2.2.2.1) f_X7_128 (by decide) kf_65_10 dX7_readOrder_30 ?_
      refine sw_ic 1 dX7_readOrder_33 ?_
      refine sw_iadd dX7_readOrder_34 ?_
      refine sw_topE (v := nI (p + 1)) (nI_1 p) ?_
      refine sx_putI fp_X7_128 (by decide) kf_65_10 dX7_readOrder_35 ?_
      refine sw_aload_n (i := 0) dX7_readOrder_38 rfl rfl ?_
      refine sx_getIE (nI (sg f L p)) rfl f_X7_138 (by decide) kf_65_11 dX7_readOrder_39 ?_
      refine sw_lookup (off := 136) (tgt := 178) dX7_readOrder_42 (by decide) (by rw [ez]; simp only [Op.lookupswitch.offset]; rw [if_neg (by omega), if_neg (by omega), if_neg (by omega), if_neg (by omega)]) (by decide) ?_
      refine sw_aload_n (i := 0) dX7_readOrder_178 rfl rfl ?_
      refine sw_ins (pc2 := 179) rfl rfl ?_
      refine sw_dup dX7_readOrder_179 rfl ?_
      refine sx_getIE (nI (p + 1)) rfl f_X7_128 (by decide) kf_65_10 dX7_readOrder_180 ?_
      refine sw_ic 1 dX7_readOrder_183 ?_
      refine sw_isub dX7_readOrder_184 ?_
      refine sw_topE (v := nI p) (pk_sub (by omega)) ?_
      refine sx_putI fp_X7_128 (by decide) kf_65_10 dX7_readOrder_185 ?_
      refine sw_ic 0 dX7_readOrder_188 ?_
      exact sw_zreturnE rfl rfl rfl dX7_readOrder_189
    · exact hf
  ·
    refine ⟨d2 (d2 (d2 d 65 11 (nI 0)) 65 10 (nI (p + 1))) 65 10 (nI p), p, (RT_p (RT_p (RT_l h) (by omega)) (by omega)), (rfr_p (rfr_p (rfr_l (rfr_refl d)))), Or.inr ⟨op_of pl_X7_readOrder (Nat.le_of_ble_eq_true rfl) ?_, ?_⟩⟩
    ·
      refine sw_aload_n (i := 0) dX7_readOrder_0 rfl rfl ?_
      refine sw_aload_n (i := 0) dX7_readOrder_1 rfl rfl ?_
      refine sx_getIE (nI p) h.2.2.2.1 f_X7_128 (by decide) kf_65_10 dX7_readOrder_2 ?_
      refine sw_aload_n (i := 0) dX7_readOrder_5 rfl rfl ?_
      refine sx_getIE (nI L) h.2.2.1 f_X7_125 (by decide) kf_65_6 dX7_readOrder_6 ?_
      refine sw_ic_ge (tgt := 24) dX7_readOrder_9 rfl (fun _ => ?_) (fun h9 => absurd (nI_le (by omega) (by omega)) h9)
      refine sw_ic 0 dX7_readOrder_24 ?_
      refine sw_ins (pc2 := 25) rfl rfl ?_
      refine sx_putI fp_X7_138 (by decide) kf_65_11 dX7_readOrder_25 ?_
      refine sw_aload_n (i := 0) dX7_readOrder_28 rfl rfl ?_
      refine sw_dup dX7_readOrder_29 rfl ?_
      refine sx_getIE (nI p) ((d2_ne _ _ (Or.inr (by decide))).trans h.2.2.2.1) f_X7_128 (by decide) kf_65_10 dX7_readOrder_30 ?_
      refine sw_ic 1 dX7_readOrder_33 ?_
      refine sw_iadd dX7_readOrder_34 ?_
      refine sw_topE (v := nI (p + 1)) (nI_1 p) ?_
      refine sx_putI fp_X7_128 (by decide) kf_65_10 dX7_readOrder_35 ?_
      refine sw_aload_n (i := 0) dX7_readOrder_38 rfl rfl ?_
      refine sw_ins (pc2 := 39) rfl rfl ?_
      refine sx_getIE (nI 0) rfl f_X7_138 (by decide) kf_65_11 dX7_readOrder_39 ?_
      refine sw_lookup (off := 136) (tgt := 178) dX7_readOrder_42 (by decide) (by decide) (by decide) ?_
      refine sw_aload_n (i := 0) dX7_readOrder_178 rfl rfl ?_
      refine sw_dup dX7_readOrder_179 rfl ?_
      refine sx_getIE (nI (p + 1)) rfl f_X7_128 (by decide) kf_65_10 dX7_readOrder_180 ?_
      refine sw_ic 1 dX7_readOrder_183 ?_
      refine sw_isub dX7_readOrder_184 ?_
      refine sw_topE (v := nI p) (pk_sub (by omega)) ?_
      refine sx_putI fp_X7_128 (by decide) kf_65_10 dX7_readOrder_185 ?_
      refine sw_ins (pc2 := 188) rfl rfl ?_
      refine sw_ic 0 dX7_readOrder_188 ?_
      exact sw_zreturnE rfl rfl rfl dX7_readOrder_189
    · exact hf
theorem A_X7_readOrder {d : Nat → Nat → Int32} {r : Nat → Nat → Option Nat} {J : Nat → Nat → Int64} {f : Nat → Int32} {L p : Nat} (h : RT d f L p) (hp : p ≤ L) (hs : rnS f L p = 0) : ∃ d1 q, RT d1 f L q ∧ rfr d d1 ∧ ((OP kX7_readOrder yX7_readOrder 4 [.ref 65] d r J (some (.int (nI 1))) d1 r J ∧ roT f L p q ∧ tld d1 f L p) ∨ (OP kX7_readOrder yX7_readOrder 4 [.ref 65] d r J (some (.int (nI 0))) d1 r J ∧ roF f L q)) := by
  by_cases c107 : sg f L p = 107
  · exact Bk_X7_readOrder h hp hs c107
  by_cases c112 : sg f L p = 112
  · exact Bp_X7_readOrder h hp hs c112
  by_cases c115 : sg f L p = 115
  · exact Bs_X7_readOrder h hp hs c115
  by_cases c120 : sg f L p = 120
  · exact Bx_X7_readOrder h hp hs c120
  exact Bd_X7_readOrder h hp hs c107 c112 c115 c120
