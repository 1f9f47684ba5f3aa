/-! THE MODEL, 9: its calls that change (own work, written by wip/tools) -/
/-- the model's cells hold a state -/
def RM (d : Nat → Nat → Int32) (V : Nat → Int32) (n : Nat) (H S : Nat → Nat → Int32) (t : Nat → Bool) (T : Nat → Int32) (tl : Nat) : Prop :=
  n ≤ 6 ∧ mV d = V ∧ d 65 2 = nI n ∧ (∀ i, i < n → vM d 67 (83 * i) = H i) ∧ ((t 0 = true → vM d 68 0 = S 0) ∧ (t 1 = true → vM d 68 83 = S 1)) ∧ (d 69 0 = bI (t 0) ∧ d 69 1 = bI (t 1)) ∧ d 65 6 = nI tl ∧ ∀ i, i < tl → d 70 i = T i
/-- cells below 65 stand as they did -/
def fc (d d1 : Nat → Nat → Int32) : Prop := ∀ c, c < 65 → d1 c = d c
theorem fc_refl (d : Nat → Nat → Int32) : fc d d := fun _ _ => rfl
theorem fc_tr {a b c : Nat → Nat → Int32} (h : fc a b) (g : fc b c) : fc a c := fun x hx => (g x hx).trans (h x hx)
theorem fc_d2 {d d1 : Nat → Nat → Int32} {c j : Nat} {x : Int32} (h : fc d d1) (hc : 65 ≤ c) : fc d (d2 d1 c j x) := fun k hk => (d2_off _ _ (by omega)).trans (h k hk)
theorem fc_dup {d d1 : Nat → Nat → Int32} {c : Nat} {f : Nat → Int32} (h : fc d d1) (hc : 65 ≤ c) : fc d (dup d1 c f) := fun k hk => (dup_ne _ _ (by omega)).trans (h k hk)
section RMS
variable {d d1 : Nat → Nat → Int32} {r : Nat → Nat → Option Nat} {J : Nat → Nat → Int64} {V V' : Nat → Int32} {n : Nat} {H S : Nat → Nat → Int32} {t : Nat → Bool} {T : Nat → Int32} {tl : Nat}
theorem RM_fr (h : RM d V n H S t T tl) (hV : mV d1 = V') (e7 : d1 67 = d 67) (e8 : d1 68 = d 68) (e9 : d1 69 = d 69) (e0 : d1 70 = d 70) (f2 : d1 65 2 = d 65 2) (f6 : d1 65 6 = d 65 6) : RM d1 V' n H S t T tl := by
  obtain ⟨h1, h2, h3, h4, ⟨h5, h6⟩, ⟨h7, h8⟩, h9, h10⟩ := h
  exact ⟨h1, hV, f2.trans h3, fun i hi => (vM_keep e7).trans (h4 i hi), ⟨fun q => (vM_keep e8).trans (h5 q), fun q => (vM_keep e8).trans (h6 q)⟩, ⟨(congrFun e9 0).trans h7, (congrFun e9 1).trans h8⟩, f6.trans h9, fun i hi => (congrFun e0 i).trans (h10 i hi)⟩
theorem RM_th {x : Int32} (h : RM d V n H S t T tl) : RM (d2 d 65 7 x) V n H S t T tl := RM_fr h ((mV_keep (d2_off _ _ (by decide))).trans h.2.1) (d2_off _ _ (by decide)) (d2_off _ _ (by decide)) (d2_off _ _ (by decide)) (d2_off _ _ (by decide)) (d2_ne _ _ (Or.inr (by decide))) (d2_ne _ _ (Or.inr (by decide)))
theorem RM_chg (h : RM d V n H S t T tl) (hV : mV d1 = V') (e : ∀ c, c ≠ 66 → c ≠ 71 → c ≠ 72 → d1 c = d c) : RM d1 V' n H S t T tl ∧ d1 65 7 = d 65 7 ∧ fc d d1 :=
  ⟨RM_fr h hV (e 67 (by decide) (by decide) (by decide)) (e 68 (by decide) (by decide) (by decide)) (e 69 (by decide) (by decide) (by decide)) (e 70 (by decide) (by decide) (by decide)) (congrFun (e 65 (by decide) (by decide) (by decide)) 2) (congrFun (e 65 (by decide) (by decide) (by decide)) 6), congrFun (e 65 (by decide) (by decide) (by decide)) 7, fun c hc => e c (by omega) (by omega) (by omega)⟩
theorem RM_rft (h : RM d V n H S t T tl) (hV : mV d1 = V') (e : rft d d1) : RM d1 V' n H S t T tl ∧ d1 65 7 = d 65 7 ∧ fc d d1 :=
  ⟨RM_fr h hV (e.1 67 (by decide) (by decide) (by decide) (by decide) (by decide)) (e.1 68 (by decide) (by decide) (by decide) (by decide) (by decide)) (e.1 69 (by decide) (by decide) (by decide) (by decide) (by decide)) (e.1 70 (by decide) (by decide) (by decide) (by decide) (by decide)) (e.2 2 (by decide) (by decide) (by decide)) (e.2 6 (by decide) (by decide) (by decide)), e.2 7 (by decide) (by decide) (by decide), fun c hc => e.1 c (by omega) (by omega) (by omega) (by omega) (by omega)⟩
theorem M_save (h : RM d V n H S t T tl) : ∃ d1, OP kX7_save yX7_save 1 [.ref 65] d r J none d1 r J ∧ RM d1 V (psN n) (psH H n V) S t T tl ∧ d1 65 7 = d 65 7 ∧ fc d d1 := by
  obtain ⟨h1, h2, h3, h4, ⟨h5, h6⟩, ⟨h7, h8⟩, h9, h10⟩ := h
  obtain ⟨d1, g1, g2, g3, g4, g5, g6⟩ := A_X7_save (d := d) (r := r) (J := J) h1 h3
  refine ⟨d1, g1, ⟨(psN_le h1).1, g2.trans h2, g3, fun i hi => ?_, ⟨fun q => (vM_keep (g5 68 (by decide) (by decide))).trans (h5 q), fun q => (vM_keep (g5 68 (by decide) (by decide))).trans (h6 q)⟩, ⟨(congrFun (g5 69 (by decide) (by decide)) 0).trans h7, (congrFun (g5 69 (by decide) (by decide)) 1).trans h8⟩, (g6 6 (by decide)).trans h9, fun i hi => (congrFun (g5 70 (by decide) (by decide)) i).trans (h10 i hi)⟩, g6 7 (by decide), fun c hc => g5 c (by omega) (by omega)⟩
  rw [g4 i hi, h2]
  exact psH_cong h1 h4 hi
end RMS
theorem neg_9 : ∀ k : Nat, k < 10 → (-(nI k)).toInt = -(k : Int) := by decide +kernel
theorem abs_in {A B k : Nat} (hA : A ≤ 900) (hB : B ≤ 900) (hk : k ≤ 9) : (if 0 ≤ nI A - nI B then nI A - nI B else 0 - (nI A - nI B)) ≤ nI k ↔ inY (nI A - nI B) (-(nI k)) (nI k) := by
  have e1 : (nI A - nI B).toInt = (A : Int) - B := pk_sub_toInt (by omega) (by omega)
  have e2 : (nI B - nI A).toInt = (B : Int) - A := pk_sub_toInt (by omega) (by omega)
  have e3 := neg_9 k (by omega)
  have e4 : (nI k).toInt = (k : Int) := nI_toInt (by omega)
  have e5 : (0 : Int32) - (nI A - nI B) = nI B - nI A := by rw [Int32.zero_sub, Int32.neg_sub]
  rw [e5]
  unfold inY
  rw [Int32.le_iff_toInt_le (x := -(nI k)), Int32.le_iff_toInt_le (x := nI A - nI B) (y := nI k), e1, e3, e4]
  by_cases c : (0 : Int32) ≤ nI A - nI B
  · rw [if_pos c, Int32.le_iff_toInt_le, e1, e4]
    have c := Int32.le_iff_toInt_le.mp c
    rw [e1, show (0 : Int32).toInt = 0 from rfl] at c
    omega
  · rw [if_neg c, Int32.le_iff_toInt_le, e2, e4]
    have c : ¬ (0 : Int32).toInt ≤ (nI A - nI B).toInt := fun q => c (Int32.le_iff_toInt_le.mpr q)
    rw [e1, show (0 : Int32).toInt = 0 from rfl] at c
    omega
set_option maxRecDepth 100000 in
set_option maxHeartbeats 4000000 in
theorem N_storm {d : Nat → Nat → Int32} {r : Nat → Nat → Option Nat} {J : Nat → Nat → Int64} {V : Nat → Int32} {n : Nat} {H S : Nat → Nat → Int32} {t : Nat → Bool} {T : Nat → Int32} {tl : Nat} (h : RM d V n H S t T tl) (iv : IV V n H S t T tl) (hd : nI 9999 ≤ V 0) : ∃ d1, OP kX7_storm yX7_storm 2 [.ref 65] d r J (some (.int (nI 0))) d1 r J ∧ RM d1 V n H S t T tl ∧ d1 65 7 = nI 1 ∧ fc d d1 := by
  obtain ⟨okP, okM, okT9, okC, okW, okD⟩ := id iv.1
  have hV : mV d = V := h.2.1
  have hm8 := okM.2
  have hz : V 0 = nI 9999 := by
    have q := okD.1
    rw [q.1] at hd ⊢
    have : ¬ nv V 0 < 9999 := fun c => absurd hd (nI_ge c (by decide))
    rw [show nv V 0 = 9999 by omega]
  refine ⟨d2 d 65 7 (nI 1), op_of pl_X7_storm (Nat.le_of_ble_eq_true rfl) ?_, RM_th h, d2_eq _ _ _ _, fc_d2 (fc_refl d) (by decide)⟩
  refine sw_aload_n (i := 0) dX7_storm_0 rfl rfl ?_
  refine sw_aload_n (i := 0) dX7_storm_1 rfl rfl ?_
  refine sx_getR (q := 66) f_X7_7 (by decide) kr_65_0 dX7_storm_2 ?_
  refine sw_ic 0 dX7_storm_5 ?_
  refine sx_ialdE (0) (V 0) ((mV_in d (by decide) rfl).trans (congrFun hV 0)) rfl rfl (by omega) dX7_storm_6 ?_
  refine sw_si 9999 dX7_storm_7 (by decide +kernel) ?_
  refine sw_ic_ne (tgt := 17) dX7_storm_10 rfl (fun h9 => absurd hz h9) (fun _ => ?_)
  refine sw_ins (pc2 := 13) rfl rfl ?_
  refine sw_ic 1 dX7_storm_13 ?_
  refine sw_goto (tgt := 18) dX7_storm_14 rfl ?_
  refine px_Vx mv_X7_92 (A0_X7_holds (k := 1) (by decide) (by decide)) rfl rfl (Nat.le_of_ble_eq_true rfl) (Nat.le_of_ble_eq_true rfl) ko_65 (Nat.le_of_ble_eq_true rfl) dX7_storm_18 ?_
  refine sw_if_ne (tgt := 26) dX7_storm_21 rfl (fun h9 => absurd (by decide) h9) (fun _ => ?_)
  refine sw_ic 0 dX7_storm_24 ?_
  exact sw_ireturn rfl dX7_storm_25
set_option maxRecDepth 100000 in
set_option maxHeartbeats 4000000 in
theorem M_storm {d : Nat → Nat → Int32} {r : Nat → Nat → Option Nat} {J : Nat → Nat → Int64} {V : Nat → Int32} {n : Nat} {H S : Nat → Nat → Int32} {t : Nat → Bool} {T : Nat → Int32} {tl : Nat} (h : RM d V n H S t T tl) (iv : IV V n H S t T tl) (hd : ¬ nI 9999 ≤ V 0) : ∃ d1, OP kX7_storm yX7_storm 2 [.ref 65] d r J (some (.int (nI (brk (stm V)).2))) d1 r J ∧ RM d1 (brs (stm V)) (psN n) (psH H n V) S t T tl ∧ d1 65 7 = nI 0 ∧ fc d d1 := by
  obtain ⟨okP, okM, okT9, okC, okW, okD⟩ := id iv.1
  have hV : mV d = V := h.2.1
  have hm8 := okM.2
  have h0 := RM_th (x := nI 0) h
  obtain ⟨e1, s1, h1, k1, f1⟩ := M_save (r := r) (J := J) h0
  have k1 : e1 65 7 = nI 0 := k1.trans (d2_eq _ _ _ _)
  have f1 : fc d e1 := fc_tr (fc_d2 (fc_refl d) (by decide)) f1
  have v1 : mV e1 = V := h1.2.1
  obtain ⟨d1, a1, a2, a3⟩ := A_X7_doStorm (d := e1) (r := r) (J := J) (by rw [v1]; exact okP) (by rw [v1]; exact okM)
  rw [v1] at a1 a2
  obtain ⟨r1, r2, r3⟩ := RM_chg h1 a2 (fun c q1 q2 q3 => a3 c q1 q3)
  refine ⟨d1, op_of pl_X7_storm (Nat.le_of_ble_eq_true rfl) ?_, r1, r2.trans k1, fc_tr f1 r3⟩
  refine sw_aload_n (i := 0) dX7_storm_0 rfl rfl ?_
  refine sw_aload_n (i := 0) dX7_storm_1 rfl rfl ?_
  refine sx_getR (q := 66) f_X7_7 (by decide) kr_65_0 dX7_storm_2 ?_
  refine sw_ic 0 dX7_storm_5 ?_
  refine sx_ialdE (0) (V 0) ((mV_in d (by decide) rfl).trans (congrFun hV 0)) rfl rfl (by omega) dX7_storm_6 ?_
  refine sw_si 9999 dX7_storm_7 (by decide +kernel) ?_
  refine sw_ic_ne (tgt := 17) dX7_storm_10 rfl (fun _ => ?_) (fun h9 => absurd h9 (fun q => hd (by rw [q]; exact Int32.le_refl _)))
  refine sw_ins (pc2 := 17) rfl rfl ?_
  refine sw_ic 0 dX7_storm_17 ?_
  refine px_Vx mv_X7_92 A1_X7_holds rfl rfl (Nat.le_of_ble_eq_true rfl) (Nat.le_of_ble_eq_true rfl) ko_65 (Nat.le_of_ble_eq_true rfl) dX7_storm_18 ?_
  refine sw_if_ne (tgt := 26) dX7_storm_21 rfl (fun _ => ?_) (fun h9 => absurd h9 (by decide))
  refine sw_aload_n (i := 0) dX7_storm_26 rfl rfl ?_
  refine px_Vv mv_X7_95 s1 rfl rfl (Nat.le_of_ble_eq_true rfl) (Nat.le_of_ble_eq_true rfl) ko_65 (Nat.le_of_ble_eq_true rfl) dX7_storm_27 ?_
  refine sw_aload_n (i := 0) dX7_storm_30 rfl rfl ?_
  refine px_Vx mv_X7_98 a1 rfl rfl (Nat.le_of_ble_eq_true rfl) (Nat.le_of_ble_eq_true rfl) ko_65 (Nat.le_of_ble_eq_true rfl) dX7_storm_31 ?_
  exact sw_ireturn rfl dX7_storm_34
set_option maxRecDepth 100000 in
set_option maxHeartbeats 4000000 in
theorem N1_cross {d : Nat → Nat → Int32} {r : Nat → Nat → Option Nat} {J : Nat → Nat → Int64} {V : Nat → Int32} {n : Nat} {H S : Nat → Nat → Int32} {t : Nat → Bool} {T : Nat → Int32} {tl : Nat} (h : RM d V n H S t T tl) (iv : IV V n H S t T tl) {x y : Int32} (hx : x < 0 ∨ ¬ x < nI 8) : ∃ d1, OP kX7_cross yX7_cross 2 [.ref 65, .int x, .int y] d r J (some (.int (nI 0))) d1 r J ∧ RM d1 V n H S t T tl ∧ d1 65 7 = nI 1 ∧ fc d d1 := by
  obtain ⟨okP, okM, okT9, okC, okW, okD⟩ := id iv.1
  have hV : mV d = V := h.2.1
  have hm8 := okM.2
  refine ⟨d2 d 65 7 (nI 1), op_of pl_X7_cross (Nat.le_of_ble_eq_true rfl) ?_, RM_th h, d2_eq _ _ _ _, fc_d2 (fc_refl d) (by decide)⟩
  refine sw_aload_n (i := 0) dX7_cross_0 rfl rfl ?_
  refine sw_iload_n (i := 1) dX7_cross_1 rfl rfl ?_
  refine px_Sx ms_X7_88 (A0_X7_isIslander hx) rfl rfl (Nat.le_of_ble_eq_true rfl) (Nat.le_of_ble_eq_true rfl) (Nat.le_of_ble_eq_true rfl) dX7_cross_2 ?_
  refine sw_if_eq (tgt := 19) dX7_cross_5 rfl (fun _ => ?_) (fun h9 => absurd (by decide) h9)
  refine sw_ic 1 dX7_cross_19 ?_
  refine px_Vx mv_X7_92 (A0_X7_holds (k := 1) (by decide) (by decide)) rfl rfl (Nat.le_of_ble_eq_true rfl) (Nat.le_of_ble_eq_true rfl) ko_65 (Nat.le_of_ble_eq_true rfl) dX7_cross_20 ?_
  refine sw_if_ne (tgt := 28) dX7_cross_23 rfl (fun h9 => absurd (by decide) h9) (fun _ => ?_)
  refine sw_ins (pc2 := 26) rfl rfl ?_
  refine sw_ic 0 dX7_cross_26 ?_
  exact sw_ireturn rfl dX7_cross_27
set_option maxRecDepth 100000 in
set_option maxHeartbeats 4000000 in
theorem N2_cross {d : Nat → Nat → Int32} {r : Nat → Nat → Option Nat} {J : Nat → Nat → Int64} {V : Nat → Int32} {n : Nat} {H S : Nat → Nat → Int32} {t : Nat → Bool} {T : Nat → Int32} {tl : Nat} (h : RM d V n H S t T tl) (iv : IV V n H S t T tl) {i : Nat} {y : Int32} (hi : i < 8) (hy : y < 0 ∨ ¬ y < nI 8) : ∃ d1, OP kX7_cross yX7_cross 2 [.ref 65, .int (nI i), .int y] d r J (some (.int (nI 0))) d1 r J ∧ RM d1 V n H S t T tl ∧ d1 65 7 = nI 1 ∧ fc d d1 := by
  obtain ⟨okP, okM, okT9, okC, okW, okD⟩ := id iv.1
  have hV : mV d = V := h.2.1
  have hm8 := okM.2
  refine ⟨d2 d 65 7 (nI 1), op_of pl_X7_cross (Nat.le_of_ble_eq_true rfl) ?_, RM_th h, d2_eq _ _ _ _, fc_d2 (fc_refl d) (by decide)⟩
  refine sw_aload_n (i := 0) dX7_cross_0 rfl rfl ?_
  refine sw_iload_n (i := 1) dX7_cross_1 rfl rfl ?_
  refine px_Sx ms_X7_88 (A1_X7_isIslander hi) rfl rfl (Nat.le_of_ble_eq_true rfl) (Nat.le_of_ble_eq_true rfl) (Nat.le_of_ble_eq_true rfl) dX7_cross_2 ?_
  refine sw_if_eq (tgt := 19) dX7_cross_5 rfl (fun h9 => absurd h9 (by decide)) (fun _ => ?_)
  refine sw_iload_n (i := 2) dX7_cross_8 rfl rfl ?_
  refine px_Sx ms_X7_88 (A0_X7_isIslander hy) rfl rfl (Nat.le_of_ble_eq_true rfl) (Nat.le_of_ble_eq_true rfl) (Nat.le_of_ble_eq_true rfl) dX7_cross_9 ?_
  refine sw_if_eq (tgt := 19) dX7_cross_12 rfl (fun _ => ?_) (fun h9 => absurd (by decide) h9)
  refine sw_ins (pc2 := 19) rfl rfl ?_
  refine sw_ic 1 dX7_cross_19 ?_
  refine px_Vx mv_X7_92 (A0_X7_holds (k := 1) (by decide) (by decide)) rfl rfl (Nat.le_of_ble_eq_true rfl) (Nat.le_of_ble_eq_true rfl) ko_65 (Nat.le_of_ble_eq_true rfl) dX7_cross_20 ?_
  refine sw_if_ne (tgt := 28) dX7_cross_23 rfl (fun h9 => absurd (by decide) h9) (fun _ => ?_)
  refine sw_ic 0 dX7_cross_26 ?_
  exact sw_ireturn rfl dX7_cross_27
set_option maxRecDepth 100000 in
set_option maxHeartbeats 4000000 in
theorem M_cross {d : Nat → Nat → Int32} {r : Nat → Nat → Option Nat} {J : Nat → Nat → Int64} {V : Nat → Int32} {n : Nat} {H S : Nat → Nat → Int32} {t : Nat → Bool} {T : Nat → Int32} {tl : Nat} (h : RM d V n H S t T tl) (iv : IV V n H S t T tl) {i o : Nat} (hi : i < 8) (ho : o < 8) : ∃ d1, OP kX7_cross yX7_cross 2 [.ref 65, .int (nI i), .int (nI o)] d r J (some (.int (swp V i o (11 + i)))) d1 r J ∧ RM d1 (swp V i o) (psN n) (psH H n V) S t T tl ∧ d1 65 7 = nI 0 ∧ fc d d1 := by
  obtain ⟨okP, okM, okT9, okC, okW, okD⟩ := id iv.1
  have hV : mV d = V := h.2.1
  have hm8 := okM.2
  have h0 := RM_th (x := nI 0) h
  obtain ⟨e1, s1, h1, k1, f1⟩ := M_save (r := r) (J := J) h0
  have k1 : e1 65 7 = nI 0 := k1.trans (d2_eq _ _ _ _)
  have f1 : fc d e1 := fc_tr (fc_d2 (fc_refl d) (by decide)) f1
  have v1 : mV e1 = V := h1.2.1
  obtain ⟨d1, a1, a2, a3⟩ := A_X7_doCross (d := e1) (r := r) (J := J) hi ho
  rw [v1] at a1 a2
  obtain ⟨r1, r2, r3⟩ := RM_chg h1 a2 (fun c q1 q2 q3 => a3 c q1)
  refine ⟨d1, op_of pl_X7_cross (Nat.le_of_ble_eq_true rfl) ?_, r1, r2.trans k1, fc_tr f1 r3⟩
  refine sw_aload_n (i := 0) dX7_cross_0 rfl rfl ?_
  refine sw_iload_n (i := 1) dX7_cross_1 rfl rfl ?_
  refine px_Sx ms_X7_88 (A1_X7_isIslander hi) rfl rfl (Nat.le_of_ble_eq_true rfl) (Nat.le_of_ble_eq_true rfl) (Nat.le_of_ble_eq_true rfl) dX7_cross_2 ?_
  refine sw_if_eq (tgt := 19) dX7_cross_5 rfl (fun h9 => absurd h9 (by decide)) (fun _ => ?_)
  refine sw_iload_n (i := 2) dX7_cross_8 rfl rfl ?_
  refine px_Sx ms_X7_88 (A1_X7_isIslander ho) rfl rfl (Nat.le_of_ble_eq_true rfl) (Nat.le_of_ble_eq_true rfl) (Nat.le_of_ble_eq_true rfl) dX7_cross_9 ?_
  refine sw_if_eq (tgt := 19) dX7_cross_12 rfl (fun h9 => absurd h9 (by decide)) (fun _ => ?_)
  refine sw_ins (pc2 := 15) rfl rfl ?_
  refine sw_ic 0 dX7_cross_15 ?_
  refine sw_goto (tgt := 20) dX7_cross_16 rfl ?_
  refine px_Vx mv_X7_92 A1_X7_holds rfl rfl (Nat.le_of_ble_eq_true rfl) (Nat.le_of_ble_eq_true rfl) ko_65 (Nat.le_of_ble_eq_true rfl) dX7_cross_20 ?_
  refine sw_if_ne (tgt := 28) dX7_cross_23 rfl (fun _ => ?_) (fun h9 => absurd h9 (by decide))
  refine sw_aload_n (i := 0) dX7_cross_28 rfl rfl ?_
  refine px_Vv mv_X7_95 s1 rfl rfl (Nat.le_of_ble_eq_true rfl) (Nat.le_of_ble_eq_true rfl) ko_65 (Nat.le_of_ble_eq_true rfl) dX7_cross_29 ?_
  refine sw_aload_n (i := 0) dX7_cross_32 rfl rfl ?_
  refine sw_iload_n (i := 1) dX7_cross_33 rfl rfl ?_
  refine sw_ins (pc2 := 34) rfl rfl ?_
  refine sw_iload_n (i := 2) dX7_cross_34 rfl rfl ?_
  refine px_Vx mv_X7_102 a1 rfl rfl (Nat.le_of_ble_eq_true rfl) (Nat.le_of_ble_eq_true rfl) ko_65 (Nat.le_of_ble_eq_true rfl) dX7_cross_35 ?_
  exact sw_ireturn rfl dX7_cross_38
set_option maxRecDepth 100000 in
set_option maxHeartbeats 4000000 in
theorem A_X7_reasonOf {d : Nat → Nat → Int32} {r : Nat → Nat → Option Nat} {J : Nat → Nat → Int64} {V : Nat → Int32} (hV : mV d = V) (okW : okWorth V) (okD : okDay V) {a c b e x y : Nat} (ha : a < 8) (hc : c < 4) (hb : b < 8) (he : e < 4) (hx : x ≤ 99) (hy : y ≤ 99) : OP kX7_reasonOf yX7_reasonOf 1 [.ref 65, .int (nI a), .int (nI c), .int (nI x), .int (nI b), .int (nI e), .int (nI y)] d r J (some (.int (rsn V a c b e (nI x) (nI y)))) d r J := by
  refine op_of pl_X7_reasonOf (Nat.le_of_ble_eq_true rfl) ?_
  have w1 := okW c hc
  have w2 := okW e he
  have m1 : x * nv V (7 + c) ≤ 99 * 9 := Nat.mul_le_mul hx w1.2.2
  have m2 : y * nv V (7 + e) ≤ 99 * 9 := Nat.mul_le_mul hy w2.2.2
  have ed : dff V c e (nI x) (nI y) = nI (x * nv V (7 + c)) - nI (y * nv V (7 + e)) := by
    unfold dff
    rw [w1.1, w2.1, pk_mul, pk_mul]
  have hab := abs_in (A := x * nv V (7 + c)) (B := y * nv V (7 + e)) (k := nv V 6) (by omega) (by omega) okD.2.2
  rw [← ed, ← okD.2.1] at hab
  have ca := A_X7_capsOf (d := d) (r := r) (J := J) ha hc
  have cb := A_X7_capsOf (d := d) (r := r) (J := J) hb he
  rw [hV] at ca cb
  unfold rsn
  by_cases q1 : V (19 + (a * 4 + c)) < nI x
  · rw [if_pos q1]
    refine sw_iload_n (i := 3) dX7_reasonOf_0 rfl rfl ?_
    refine sw_aload_n (i := 0) dX7_reasonOf_1 rfl rfl ?_
    refine sx_getR (q := 66) f_X7_7 (by decide) kr_65_0 dX7_reasonOf_2 ?_
    refine sw_bi 7 dX7_reasonOf_5 (by decide +kernel) ?_
    refine sw_iload_n (i := 2) dX7_reasonOf_7 rfl rfl ?_
    refine sw_iadd dX7_reasonOf_8 ?_
    refine sx_ialdE (7 + c) (nI (nv V (7 + c))) ((mV_in d (by omega) rfl).trans ((congrFun hV _).trans w1.1)) rfl (by simp only [nI_add, pk_mul]) (by omega) dX7_reasonOf_9 ?_
    refine sw_ins (pc2 := 10) rfl rfl ?_
    refine sw_imul dX7_reasonOf_10 ?_
    refine sw_topE (v := nI (x * nv V (7 + c))) (pk_mul _ _) ?_
    refine sw_iload (i := 6) dX7_reasonOf_11 rfl ?_
    refine sw_aload_n (i := 0) dX7_reasonOf_13 rfl rfl ?_
    refine sx_getR (q := 66) f_X7_7 (by decide) kr_65_0 dX7_reasonOf_14 ?_
    refine sw_bi 7 dX7_reasonOf_17 (by decide +kernel) ?_
    refine sw_iload (i := 5) dX7_reasonOf_19 rfl ?_
    refine sw_iadd dX7_reasonOf_21 ?_
    refine sx_ialdE (7 + e) (nI (nv V (7 + e))) ((mV_in d (by omega) rfl).trans ((congrFun hV _).trans w2.1)) rfl (by simp only [nI_add, pk_mul]) (by omega) dX7_reasonOf_22 ?_
    refine sw_ins (pc2 := 23) rfl rfl ?_
    refine sw_imul dX7_reasonOf_23 ?_
    refine sw_topE (v := nI (y * nv V (7 + e))) (pk_mul _ _) ?_
    refine sw_isub dX7_reasonOf_24 ?_
    refine sw_istore (i := 7) dX7_reasonOf_25 (Nat.le_of_ble_eq_true rfl) rfl ?_
    refine sw_lo (lo2 := [some (.ref 65), some (.int _), some (.int _), some (.int _), some (.int _), some (.int _), some (.int _), some (.int _)]) rfl ?_
    refine sw_aload_n (i := 0) dX7_reasonOf_27 rfl rfl ?_
    refine sw_iload_n (i := 1) dX7_reasonOf_28 rfl rfl ?_
    refine sw_iload_n (i := 2) dX7_reasonOf_29 rfl rfl ?_
    refine px_Vx mv_X7_50 ca rfl rfl (Nat.le_of_ble_eq_true rfl) (Nat.le_of_ble_eq_true rfl) ko_65 (Nat.le_of_ble_eq_true rfl) dX7_reasonOf_30 ?_
    refine sw_iload_n (i := 3) dX7_reasonOf_33 rfl rfl ?_
    refine sw_ins (pc2 := 34) rfl rfl ?_
    refine sw_ic_ge (tgt := 41) dX7_reasonOf_34 rfl (fun h9 => absurd h9 (Int32.not_le.mpr q1)) (fun _ => ?_)
    refine sw_ic 1 dX7_reasonOf_37 ?_
    refine sw_goto (tgt := 86) dX7_reasonOf_38 rfl ?_
    exact sw_ireturn rfl dX7_reasonOf_86
  · rw [if_neg q1]
    by_cases q2 : V (19 + (b * 4 + e)) < nI y
    · rw [if_pos q2]
      refine sw_iload_n (i := 3) dX7_reasonOf_0 rfl rfl ?_
      refine sw_aload_n (i := 0) dX7_reasonOf_1 rfl rfl ?_
      refine sx_getR (q := 66) f_X7_7 (by decide) kr_65_0 dX7_reasonOf_2 ?_
      refine sw_bi 7 dX7_reasonOf_5 (by decide +kernel) ?_
      refine sw_iload_n (i := 2) dX7_reasonOf_7 rfl rfl ?_
      refine sw_iadd dX7_reasonOf_8 ?_
      refine sx_ialdE (7 + c) (nI (nv V (7 + c))) ((mV_in d (by omega) rfl).trans ((congrFun hV _).trans w1.1)) rfl (by simp only [nI_add, pk_mul]) (by omega) dX7_reasonOf_9 ?_
      refine sw_ins (pc2 := 10) rfl rfl ?_
      refine sw_imul dX7_reasonOf_10 ?_
      refine sw_topE (v := nI (x * nv V (7 + c))) (pk_mul _ _) ?_
      refine sw_iload (i := 6) dX7_reasonOf_11 rfl ?_
      refine sw_aload_n (i := 0) dX7_reasonOf_13 rfl rfl ?_
      refine sx_getR (q := 66) f_X7_7 (by decide) kr_65_0 dX7_reasonOf_14 ?_
      refine sw_bi 7 dX7_reasonOf_17 (by decide +kernel) ?_
      refine sw_iload (i := 5) dX7_reasonOf_19 rfl ?_
      refine sw_iadd dX7_reasonOf_21 ?_
      refine sx_ialdE (7 + e) (nI (nv V (7 + e))) ((mV_in d (by omega) rfl).trans ((congrFun hV _).trans w2.1)) rfl (by simp only [nI_add, pk_mul]) (by omega) dX7_reasonOf_22 ?_
      refine sw_ins (pc2 := 23) rfl rfl ?_
      refine sw_imul dX7_reasonOf_23 ?_
      refine sw_topE (v := nI (y * nv V (7 + e))) (pk_mul _ _) ?_
      refine sw_isub dX7_reasonOf_24 ?_
      refine sw_istore (i := 7) dX7_reasonOf_25 (Nat.le_of_ble_eq_true rfl) rfl ?_
      refine sw_lo (lo2 := [some (.ref 65), some (.int _), some (.int _), some (.int _), some (.int _), some (.int _), some (.int _), some (.int _)]) rfl ?_
      refine sw_aload_n (i := 0) dX7_reasonOf_27 rfl rfl ?_
      refine sw_iload_n (i := 1) dX7_reasonOf_28 rfl rfl ?_
      refine sw_iload_n (i := 2) dX7_reasonOf_29 rfl rfl ?_
      refine px_Vx mv_X7_50 ca rfl rfl (Nat.le_of_ble_eq_true rfl) (Nat.le_of_ble_eq_true rfl) ko_65 (Nat.le_of_ble_eq_true rfl) dX7_reasonOf_30 ?_
      refine sw_iload_n (i := 3) dX7_reasonOf_33 rfl rfl ?_
      refine sw_ins (pc2 := 34) rfl rfl ?_
      refine sw_ic_ge (tgt := 41) dX7_reasonOf_34 rfl (fun _ => ?_) (fun h9 => absurd (Int32.not_lt.mp q1) h9)
      refine sw_aload_n (i := 0) dX7_reasonOf_41 rfl rfl ?_
      refine sw_iload (i := 4) dX7_reasonOf_42 rfl ?_
      refine sw_iload (i := 5) dX7_reasonOf_44 rfl ?_
      refine px_Vx mv_X7_50 cb rfl rfl (Nat.le_of_ble_eq_true rfl) (Nat.le_of_ble_eq_true rfl) ko_65 (Nat.le_of_ble_eq_true rfl) dX7_reasonOf_46 ?_
      refine sw_iload (i := 6) dX7_reasonOf_49 rfl ?_
      refine sw_ic_ge (tgt := 58) dX7_reasonOf_51 rfl (fun h9 => absurd h9 (Int32.not_le.mpr q2)) (fun _ => ?_)
      refine sw_ic 2 dX7_reasonOf_54 ?_
      refine sw_ins (pc2 := 55) rfl rfl ?_
      refine sw_goto (tgt := 86) dX7_reasonOf_55 rfl ?_
      exact sw_ireturn rfl dX7_reasonOf_86
    · rw [if_neg q2]
      by_cases q3 : (if 0 ≤ dff V c e (nI x) (nI y) then dff V c e (nI x) (nI y) else 0 - dff V c e (nI x) (nI y)) ≤ V 6
      · rw [if_pos q3]
        have q4 := hab.mp q3
        rw [ed, okD.2.1] at q4
        refine sw_iload_n (i := 3) dX7_reasonOf_0 rfl rfl ?_
        refine sw_aload_n (i := 0) dX7_reasonOf_1 rfl rfl ?_
        refine sx_getR (q := 66) f_X7_7 (by decide) kr_65_0 dX7_reasonOf_2 ?_
        refine sw_bi 7 dX7_reasonOf_5 (by decide +kernel) ?_
        refine sw_iload_n (i := 2) dX7_reasonOf_7 rfl rfl ?_
        refine sw_iadd dX7_reasonOf_8 ?_
        refine sx_ialdE (7 + c) (nI (nv V (7 + c))) ((mV_in d (by omega) rfl).trans ((congrFun hV _).trans w1.1)) rfl (by simp only [nI_add, pk_mul]) (by omega) dX7_reasonOf_9 ?_
        refine sw_ins (pc2 := 10) rfl rfl ?_
        refine sw_imul dX7_reasonOf_10 ?_
        refine sw_topE (v := nI (x * nv V (7 + c))) (pk_mul _ _) ?_
        refine sw_iload (i := 6) dX7_reasonOf_11 rfl ?_
        refine sw_aload_n (i := 0) dX7_reasonOf_13 rfl rfl ?_
        refine sx_getR (q := 66) f_X7_7 (by decide) kr_65_0 dX7_reasonOf_14 ?_
        refine sw_bi 7 dX7_reasonOf_17 (by decide +kernel) ?_
        refine sw_iload (i := 5) dX7_reasonOf_19 rfl ?_
        refine sw_iadd dX7_reasonOf_21 ?_
        refine sx_ialdE (7 + e) (nI (nv V (7 + e))) ((mV_in d (by omega) rfl).trans ((congrFun hV _).trans w2.1)) rfl (by simp only [nI_add, pk_mul]) (by omega) dX7_reasonOf_22 ?_
        refine sw_ins (pc2 := 23) rfl rfl ?_
        refine sw_imul dX7_reasonOf_23 ?_
        refine sw_topE (v := nI (y * nv V (7 + e))) (pk_mul _ _) ?_
        refine sw_isub dX7_reasonOf_24 ?_
        refine sw_istore (i := 7) dX7_reasonOf_25 (Nat.le_of_ble_eq_true rfl) rfl ?_
        refine sw_lo (lo2 := [some (.ref 65), some (.int _), some (.int _), some (.int _), some (.int _), some (.int _), some (.int _), some (.int _)]) rfl ?_
        refine sw_aload_n (i := 0) dX7_reasonOf_27 rfl rfl ?_
        refine sw_iload_n (i := 1) dX7_reasonOf_28 rfl rfl ?_
        refine sw_iload_n (i := 2) dX7_reasonOf_29 rfl rfl ?_
        refine px_Vx mv_X7_50 ca rfl rfl (Nat.le_of_ble_eq_true rfl) (Nat.le_of_ble_eq_true rfl) ko_65 (Nat.le_of_ble_eq_true rfl) dX7_reasonOf_30 ?_
        refine sw_iload_n (i := 3) dX7_reasonOf_33 rfl rfl ?_
        refine sw_ins (pc2 := 34) rfl rfl ?_
        refine sw_ic_ge (tgt := 41) dX7_reasonOf_34 rfl (fun _ => ?_) (fun h9 => absurd (Int32.not_lt.mp q1) h9)
        refine sw_aload_n (i := 0) dX7_reasonOf_41 rfl rfl ?_
        refine sw_iload (i := 4) dX7_reasonOf_42 rfl ?_
        refine sw_iload (i := 5) dX7_reasonOf_44 rfl ?_
        refine px_Vx mv_X7_50 cb rfl rfl (Nat.le_of_ble_eq_true rfl) (Nat.le_of_ble_eq_true rfl) ko_65 (Nat.le_of_ble_eq_true rfl) dX7_reasonOf_46 ?_
        refine sw_iload (i := 6) dX7_reasonOf_49 rfl ?_
        refine sw_ic_ge (tgt := 58) dX7_reasonOf_51 rfl (fun _ => ?_) (fun h9 => absurd (Int32.not_lt.mp q2) h9)
        refine sw_iload (i := 7) dX7_reasonOf_58 rfl ?_
        refine sw_ins (pc2 := 60) rfl rfl ?_
        refine sw_aload_n (i := 0) dX7_reasonOf_60 rfl rfl ?_
        refine sx_getR (q := 66) f_X7_7 (by decide) kr_65_0 dX7_reasonOf_61 ?_
        refine sw_bi 6 dX7_reasonOf_64 (by decide +kernel) ?_
        refine sx_ialdE (6) (nI (nv V 6)) ((mV_in d (by decide) rfl).trans ((congrFun hV _).trans okD.2.1)) rfl rfl (by omega) dX7_reasonOf_66 ?_
        refine sw_ineg dX7_reasonOf_67 ?_
        refine sw_aload_n (i := 0) dX7_reasonOf_68 rfl rfl ?_
        refine sx_getR (q := 66) f_X7_7 (by decide) kr_65_0 dX7_reasonOf_69 ?_
        refine sw_bi 6 dX7_reasonOf_72 (by decide +kernel) ?_
        refine sw_ins (pc2 := 74) rfl rfl ?_
        refine sx_ialdE (6) (nI (nv V 6)) ((mV_in d (by decide) rfl).trans ((congrFun hV _).trans okD.2.1)) rfl rfl (by omega) dX7_reasonOf_74 ?_
        refine px_Sx ms_X7_39 (A1_X7_in q4) rfl rfl (Nat.le_of_ble_eq_true rfl) (Nat.le_of_ble_eq_true rfl) (Nat.le_of_ble_eq_true rfl) dX7_reasonOf_75 ?_
        refine sw_if_eq (tgt := 85) dX7_reasonOf_78 rfl (fun h9 => absurd h9 (by decide)) (fun _ => ?_)
        refine sw_ic 0 dX7_reasonOf_81 ?_
        refine sw_goto (tgt := 86) dX7_reasonOf_82 rfl ?_
        exact sw_ireturn rfl dX7_reasonOf_86
      · rw [if_neg q3]
        have q4 := fun q => q3 (hab.mpr q)
        rw [ed, okD.2.1] at q4
        refine sw_iload_n (i := 3) dX7_reasonOf_0 rfl rfl ?_
        refine sw_aload_n (i := 0) dX7_reasonOf_1 rfl rfl ?_
        refine sx_getR (q := 66) f_X7_7 (by decide) kr_65_0 dX7_reasonOf_2 ?_
        refine sw_bi 7 dX7_reasonOf_5 (by decide +kernel) ?_
        refine sw_iload_n (i := 2) dX7_reasonOf_7 rfl rfl ?_
        refine sw_iadd dX7_reasonOf_8 ?_
        refine sx_ialdE (7 + c) (nI (nv V (7 + c))) ((mV_in d (by omega) rfl).trans ((congrFun hV _).trans w1.1)) rfl (by simp only [nI_add, pk_mul]) (by omega) dX7_reasonOf_9 ?_
        refine sw_ins (pc2 := 10) rfl rfl ?_
        refine sw_imul dX7_reasonOf_10 ?_
        refine sw_topE (v := nI (x * nv V (7 + c))) (pk_mul _ _) ?_
        refine sw_iload (i := 6) dX7_reasonOf_11 rfl ?_
        refine sw_aload_n (i := 0) dX7_reasonOf_13 rfl rfl ?_
        refine sx_getR (q := 66) f_X7_7 (by decide) kr_65_0 dX7_reasonOf_14 ?_
        refine sw_bi 7 dX7_reasonOf_17 (by decide +kernel) ?_
        refine sw_iload (i := 5) dX7_reasonOf_19 rfl ?_
        refine sw_iadd dX7_reasonOf_21 ?_
        refine sx_ialdE (7 + e) (nI (nv V (7 + e))) ((mV_in d (by omega) rfl).trans ((congrFun hV _).trans w2.1)) rfl (by simp only [nI_add, pk_mul]) (by omega) dX7_reasonOf_22 ?_
        refine sw_ins (pc2 := 23) rfl rfl ?_
        refine sw_imul dX7_reasonOf_23 ?_
        refine sw_topE (v := nI (y * nv V (7 + e))) (pk_mul _ _) ?_
        refine sw_isub dX7_reasonOf_24 ?_
        refine sw_istore (i := 7) dX7_reasonOf_25 (Nat.le_of_ble_eq_true rfl) rfl ?_
        refine sw_lo (lo2 := [some (.ref 65), some (.int _), some (.int _), some (.int _), some (.int _), some (.int _), some (.int _), some (.int _)]) rfl ?_
        refine sw_aload_n (i := 0) dX7_reasonOf_27 rfl rfl ?_
        refine sw_iload_n (i := 1) dX7_reasonOf_28 rfl rfl ?_
        refine sw_iload_n (i := 2) dX7_reasonOf_29 rfl rfl ?_
        refine px_Vx mv_X7_50 ca rfl rfl (Nat.le_of_ble_eq_true rfl) (Nat.le_of_ble_eq_true rfl) ko_65 (Nat.le_of_ble_eq_true rfl) dX7_reasonOf_30 ?_
        refine sw_iload_n (i := 3) dX7_reasonOf_33 rfl rfl ?_
        refine sw_ins (pc2 := 34) rfl rfl ?_
        refine sw_ic_ge (tgt := 41) dX7_reasonOf_34 rfl (fun _ => ?_) (fun h9 => absurd (Int32.not_lt.mp q1) h9)
        refine sw_aload_n (i := 0) dX7_reasonOf_41 rfl rfl ?_
        refine sw_iload (i := 4) dX7_reasonOf_42 rfl ?_
        refine sw_iload (i := 5) dX7_reasonOf_44 rfl ?_
        refine px_Vx mv_X7_50 cb rfl rfl (Nat.le_of_ble_eq_true rfl) (Nat.le_of_ble_eq_true rfl) ko_65 (Nat.le_of_ble_eq_true rfl) dX7_reasonOf_46 ?_
        refine sw_iload (i := 6) dX7_reasonOf_49 rfl ?_
        refine sw_ic_ge (tgt := 58) dX7_reasonOf_51 rfl (fun _ => ?_) (fun h9 => absurd (Int32.not_lt.mp q2) h9)
        refine sw_iload (i := 7) dX7_reasonOf_58 rfl ?_
        refine sw_ins (pc2 := 60) rfl rfl ?_
        refine sw_aload_n (i := 0) dX7_reasonOf_60 rfl rfl ?_
        refine sx_getR (q := 66) f_X7_7 (by decide) kr_65_0 dX7_reasonOf_61 ?_
        refine sw_bi 6 dX7_reasonOf_64 (by decide +kernel) ?_
        refine sx_ialdE (6) (nI (nv V 6)) ((mV_in d (by decide) rfl).trans ((congrFun hV _).trans okD.2.1)) rfl rfl (by omega) dX7_reasonOf_66 ?_
        refine sw_ineg dX7_reasonOf_67 ?_
        refine sw_aload_n (i := 0) dX7_reasonOf_68 rfl rfl ?_
        refine sx_getR (q := 66) f_X7_7 (by decide) kr_65_0 dX7_reasonOf_69 ?_
        refine sw_bi 6 dX7_reasonOf_72 (by decide +kernel) ?_
        refine sw_ins (pc2 := 74) rfl rfl ?_
        refine sx_ialdE (6) (nI (nv V 6)) ((mV_in d (by decide) rfl).trans ((congrFun hV _).trans okD.2.1)) rfl rfl (by omega) dX7_reasonOf_74 ?_
        refine px_Sx ms_X7_39 (A0_X7_in q4) rfl rfl (Nat.le_of_ble_eq_true rfl) (Nat.le_of_ble_eq_true rfl) (Nat.le_of_ble_eq_true rfl) dX7_reasonOf_75 ?_
        refine sw_if_eq (tgt := 85) dX7_reasonOf_78 rfl (fun _ => ?_) (fun h9 => absurd (by decide) h9)
        refine sw_ic 3 dX7_reasonOf_85 ?_
        exact sw_ireturn rfl dX7_reasonOf_86
set_option maxRecDepth 100000 in
set_option maxHeartbeats 4000000 in
theorem N1_trade {d : Nat → Nat → Int32} {r : Nat → Nat → Option Nat} {J : Nat → Nat → Int64} {V : Nat → Int32} {n : Nat} {H S : Nat → Nat → Int32} {t : Nat → Bool} {T : Nat → Int32} {tl : Nat} (h : RM d V n H S t T tl) (iv : IV V n H S t T tl) {z : Int32} (q : z < 0 ∨ ¬ z < nI 8) {u2 : Int32} {u3 : Int32} {u4 : Int32} {u5 : Int32} {u6 : Int32} : ∃ d1, OP kX7_trade yX7_trade 2 [.ref 65, .int z, .int u2, .int u3, .int u4, .int u5, .int u6] d r J (some (.int (nI 0))) d1 r J ∧ RM d1 V n H S t T tl ∧ d1 65 7 = nI 1 ∧ fc d d1 := by
  obtain ⟨okP, okM, okT9, okC, okW, okD⟩ := id iv.1
  have hV : mV d = V := h.2.1
  have hm8 := okM.2
  refine ⟨d2 d 65 7 (nI 1), op_of pl_X7_trade (Nat.le_of_ble_eq_true rfl) ?_, RM_th h, d2_eq _ _ _ _, fc_d2 (fc_refl d) (by decide)⟩
  refine sw_iload_n (i := 1) dX7_trade_0 rfl rfl ?_
  refine px_Sx ms_X7_88 (A0_X7_isIslander q) rfl rfl (Nat.le_of_ble_eq_true rfl) (Nat.le_of_ble_eq_true rfl) (Nat.le_of_ble_eq_true rfl) dX7_trade_1 ?_
  refine sw_if_eq (tgt := 34) dX7_trade_4 rfl (fun _ => ?_) (fun h9 => absurd (by decide) h9)
  refine sw_ic 0 dX7_trade_34 ?_
  refine sw_istore (i := 7) dX7_trade_35 (Nat.le_of_ble_eq_true rfl) rfl ?_
  refine sw_lo (lo2 := [some (.ref 65), some (.int _), some (.int _), some (.int _), some (.int _), some (.int _), some (.int _), some (.int _), none]) rfl ?_
  refine sw_aload_n (i := 0) dX7_trade_37 rfl rfl ?_
  refine sw_iload (i := 7) dX7_trade_38 rfl ?_
  refine sw_ins (pc2 := 40) rfl rfl ?_
  refine sw_if_ne (tgt := 47) dX7_trade_40 rfl (fun h9 => absurd (by decide) h9) (fun _ => ?_)
  refine sw_ic 1 dX7_trade_43 ?_
  refine sw_goto (tgt := 79) dX7_trade_44 rfl ?_
  refine px_Vx mv_X7_92 (A0_X7_holds (k := 1) (by decide) (by decide)) rfl rfl (Nat.le_of_ble_eq_true rfl) (Nat.le_of_ble_eq_true rfl) ko_65 (Nat.le_of_ble_eq_true rfl) dX7_trade_79 ?_
  refine sw_if_ne (tgt := 87) dX7_trade_82 rfl (fun h9 => absurd (by decide) h9) (fun _ => ?_)
  refine sw_ic 0 dX7_trade_85 ?_
  exact sw_ireturn rfl dX7_trade_86
set_option maxRecDepth 100000 in
set_option maxHeartbeats 4000000 in
theorem N3_trade {d : Nat → Nat → Int32} {r : Nat → Nat → Option Nat} {J : Nat → Nat → Int64} {V : Nat → Int32} {n : Nat} {H S : Nat → Nat → Int32} {t : Nat → Bool} {T : Nat → Int32} {tl : Nat} (h : RM d V n H S t T tl) (iv : IV V n H S t T tl) {a : Nat} (ha : a < 8) {z : Int32} (q : z < 0 ∨ ¬ z < nI 8) {u2 : Int32} {u3 : Int32} {u5 : Int32} {u6 : Int32} : ∃ d1, OP kX7_trade yX7_trade 2 [.ref 65, .int (nI a), .int u2, .int u3, .int z, .int u5, .int u6] d r J (some (.int (nI 0))) d1 r J ∧ RM d1 V n H S t T tl ∧ d1 65 7 = nI 1 ∧ fc d d1 := by
  obtain ⟨okP, okM, okT9, okC, okW, okD⟩ := id iv.1
  have hV : mV d = V := h.2.1
  have hm8 := okM.2
  refine ⟨d2 d 65 7 (nI 1), op_of pl_X7_trade (Nat.le_of_ble_eq_true rfl) ?_, RM_th h, d2_eq _ _ _ _, fc_d2 (fc_refl d) (by decide)⟩
  refine sw_iload_n (i := 1) dX7_trade_0 rfl rfl ?_
  refine px_Sx ms_X7_88 (A1_X7_isIslander ha) rfl rfl (Nat.le_of_ble_eq_true rfl) (Nat.le_of_ble_eq_true rfl) (Nat.le_of_ble_eq_true rfl) dX7_trade_1 ?_
  refine sw_if_eq (tgt := 34) dX7_trade_4 rfl (fun h9 => absurd h9 (by decide)) (fun _ => ?_)
  refine sw_iload (i := 4) dX7_trade_7 rfl ?_
  refine px_Sx ms_X7_88 (A0_X7_isIslander q) rfl rfl (Nat.le_of_ble_eq_true rfl) (Nat.le_of_ble_eq_true rfl) (Nat.le_of_ble_eq_true rfl) dX7_trade_9 ?_
  refine sw_if_eq (tgt := 34) dX7_trade_12 rfl (fun _ => ?_) (fun h9 => absurd (by decide) h9)
  refine sw_ic 0 dX7_trade_34 ?_
  refine sw_ins (pc2 := 35) rfl rfl ?_
  refine sw_istore (i := 7) dX7_trade_35 (Nat.le_of_ble_eq_true rfl) rfl ?_
  refine sw_lo (lo2 := [some (.ref 65), some (.int _), some (.int _), some (.int _), some (.int _), some (.int _), some (.int _), some (.int _), none]) rfl ?_
  refine sw_aload_n (i := 0) dX7_trade_37 rfl rfl ?_
  refine sw_iload (i := 7) dX7_trade_38 rfl ?_
  refine sw_if_ne (tgt := 47) dX7_trade_40 rfl (fun h9 => absurd (by decide) h9) (fun _ => ?_)
  refine sw_ic 1 dX7_trade_43 ?_
  refine sw_goto (tgt := 79) dX7_trade_44 rfl ?_
  refine px_Vx mv_X7_92 (A0_X7_holds (k := 1) (by decide) (by decide)) rfl rfl (Nat.le_of_ble_eq_true rfl) (Nat.le_of_ble_eq_true rfl) ko_65 (Nat.le_of_ble_eq_true rfl) dX7_trade_79 ?_
  refine sw_if_ne (tgt := 87) dX7_trade_82 rfl (fun h9 => absurd (by decide) h9) (fun _ => ?_)
  refine sw_ins (pc2 := 85) rfl rfl ?_
  refine sw_ic 0 dX7_trade_85 ?_
  exact sw_ireturn rfl dX7_trade_86
set_option maxRecDepth 100000 in
set_option maxHeartbeats 4000000 in
theorem N2_trade {d : Nat → Nat → Int32} {r : Nat → Nat → Option Nat} {J : Nat → Nat → Int64} {V : Nat → Int32} {n : Nat} {H S : Nat → Nat → Int32} {t : Nat → Bool} {T : Nat → Int32} {tl : Nat} (h : RM d V n H S t T tl) (iv : IV V n H S t T tl) {a : Nat} (ha : a < 8) {b : Nat} (hb : b < 8) {z : Int32} (q : z < 0 ∨ ¬ z < nI 4) {u3 : Int32} {u5 : Int32} {u6 : Int32} : ∃ d1, OP kX7_trade yX7_trade 2 [.ref 65, .int (nI a), .int z, .int u3, .int (nI b), .int u5, .int u6] d r J (some (.int (nI 0))) d1 r J ∧ RM d1 V n H S t T tl ∧ d1 65 7 = nI 1 ∧ fc d d1 := by
  obtain ⟨okP, okM, okT9, okC, okW, okD⟩ := id iv.1
  have hV : mV d = V := h.2.1
  have hm8 := okM.2
  refine ⟨d2 d 65 7 (nI 1), op_of pl_X7_trade (Nat.le_of_ble_eq_true rfl) ?_, RM_th h, d2_eq _ _ _ _, fc_d2 (fc_refl d) (by decide)⟩
  refine sw_iload_n (i := 1) dX7_trade_0 rfl rfl ?_
  refine px_Sx ms_X7_88 (A1_X7_isIslander ha) rfl rfl (Nat.le_of_ble_eq_true rfl) (Nat.le_of_ble_eq_true rfl) (Nat.le_of_ble_eq_true rfl) dX7_trade_1 ?_
  refine sw_if_eq (tgt := 34) dX7_trade_4 rfl (fun h9 => absurd h9 (by decide)) (fun _ => ?_)
  refine sw_iload (i := 4) dX7_trade_7 rfl ?_
  refine px_Sx ms_X7_88 (A1_X7_isIslander hb) rfl rfl (Nat.le_of_ble_eq_true rfl) (Nat.le_of_ble_eq_true rfl) (Nat.le_of_ble_eq_true rfl) dX7_trade_9 ?_
  refine sw_if_eq (tgt := 34) dX7_trade_12 rfl (fun h9 => absurd h9 (by decide)) (fun _ => ?_)
  refine sw_iload_n (i := 2) dX7_trade_15 rfl rfl ?_
  refine sw_ins (pc2 := 16) rfl rfl ?_
  refine px_Sx ms_X7_105 (A0_X7_isColour q) rfl rfl (Nat.le_of_ble_eq_true rfl) (Nat.le_of_ble_eq_true rfl) (Nat.le_of_ble_eq_true rfl) dX7_trade_16 ?_
  refine sw_if_eq (tgt := 34) dX7_trade_19 rfl (fun _ => ?_) (fun h9 => absurd (by decide) h9)
  refine sw_ic 0 dX7_trade_34 ?_
  refine sw_istore (i := 7) dX7_trade_35 (Nat.le_of_ble_eq_true rfl) rfl ?_
  refine sw_lo (lo2 := [some (.ref 65), some (.int _), some (.int _), some (.int _), some (.int _), some (.int _), some (.int _), some (.int _), none]) rfl ?_
  refine sw_aload_n (i := 0) dX7_trade_37 rfl rfl ?_
  refine sw_iload (i := 7) dX7_trade_38 rfl ?_
  refine sw_if_ne (tgt := 47) dX7_trade_40 rfl (fun h9 => absurd (by decide) h9) (fun _ => ?_)
  refine sw_ic 1 dX7_trade_43 ?_
  refine sw_ins (pc2 := 44) rfl rfl ?_
  refine sw_goto (tgt := 79) dX7_trade_44 rfl ?_
  refine px_Vx mv_X7_92 (A0_X7_holds (k := 1) (by decide) (by decide)) rfl rfl (Nat.le_of_ble_eq_true rfl) (Nat.le_of_ble_eq_true rfl) ko_65 (Nat.le_of_ble_eq_true rfl) dX7_trade_79 ?_
  refine sw_if_ne (tgt := 87) dX7_trade_82 rfl (fun h9 => absurd (by decide) h9) (fun _ => ?_)
  refine sw_ic 0 dX7_trade_85 ?_
  exact sw_ireturn rfl dX7_trade_86
set_option maxRecDepth 100000 in
set_option maxHeartbeats 4000000 in
theorem N4_trade {d : Nat → Nat → Int32} {r : Nat → Nat → Option Nat} {J : Nat → Nat → Int64} {V : Nat → Int32} {n : Nat} {H S : Nat → Nat → Int32} {t : Nat → Bool} {T : Nat → Int32} {tl : Nat} (h : RM d V n H S t T tl) (iv : IV V n H S t T tl) {a : Nat} (ha : a < 8) {c : Nat} (hc : c < 4) {b : Nat} (hb : b < 8) {z : Int32} (q : z < 0 ∨ ¬ z < nI 4) {u3 : Int32} {u6 : Int32} : ∃ d1, OP kX7_trade yX7_trade 2 [.ref 65, .int (nI a), .int (nI c), .int u3, .int (nI b), .int z, .int u6] d r J (some (.int (nI 0))) d1 r J ∧ RM d1 V n H S t T tl ∧ d1 65 7 = nI 1 ∧ fc d d1 := by
  obtain ⟨okP, okM, okT9, okC, okW, okD⟩ := id iv.1
  have hV : mV d = V := h.2.1
  have hm8 := okM.2
  refine ⟨d2 d 65 7 (nI 1), op_of pl_X7_trade (Nat.le_of_ble_eq_true rfl) ?_, RM_th h, d2_eq _ _ _ _, fc_d2 (fc_refl d) (by decide)⟩
  refine sw_iload_n (i := 1) dX7_trade_0 rfl rfl ?_
  refine px_Sx ms_X7_88 (A1_X7_isIslander ha) rfl rfl (Nat.le_of_ble_eq_true rfl) (Nat.le_of_ble_eq_true rfl) (Nat.le_of_ble_eq_true rfl) dX7_trade_1 ?_
  refine sw_if_eq (tgt := 34) dX7_trade_4 rfl (fun h9 => absurd h9 (by decide)) (fun _ => ?_)
  refine sw_iload (i := 4) dX7_trade_7 rfl ?_
  refine px_Sx ms_X7_88 (A1_X7_isIslander hb) rfl rfl (Nat.le_of_ble_eq_true rfl) (Nat.le_of_ble_eq_true rfl) (Nat.le_of_ble_eq_true rfl) dX7_trade_9 ?_
  refine sw_if_eq (tgt := 34) dX7_trade_12 rfl (fun h9 => absurd h9 (by decide)) (fun _ => ?_)
  refine sw_iload_n (i := 2) dX7_trade_15 rfl rfl ?_
  refine sw_ins (pc2 := 16) rfl rfl ?_
  refine px_Sx ms_X7_105 (A1_X7_isColour hc) rfl rfl (Nat.le_of_ble_eq_true rfl) (Nat.le_of_ble_eq_true rfl) (Nat.le_of_ble_eq_true rfl) dX7_trade_16 ?_
  refine sw_if_eq (tgt := 34) dX7_trade_19 rfl (fun h9 => absurd h9 (by decide)) (fun _ => ?_)
  refine sw_iload (i := 5) dX7_trade_22 rfl ?_
  refine px_Sx ms_X7_105 (A0_X7_isColour q) rfl rfl (Nat.le_of_ble_eq_true rfl) (Nat.le_of_ble_eq_true rfl) (Nat.le_of_ble_eq_true rfl) dX7_trade_24 ?_
  refine sw_if_eq (tgt := 34) dX7_trade_27 rfl (fun _ => ?_) (fun h9 => absurd (by decide) h9)
  refine sw_ic 0 dX7_trade_34 ?_
  refine sw_istore (i := 7) dX7_trade_35 (Nat.le_of_ble_eq_true rfl) rfl ?_
  refine sw_lo (lo2 := [some (.ref 65), some (.int _), some (.int _), some (.int _), some (.int _), some (.int _), some (.int _), some (.int _), none]) rfl ?_
  refine sw_aload_n (i := 0) dX7_trade_37 rfl rfl ?_
  refine sw_ins (pc2 := 38) rfl rfl ?_
  refine sw_iload (i := 7) dX7_trade_38 rfl ?_
  refine sw_if_ne (tgt := 47) dX7_trade_40 rfl (fun h9 => absurd (by decide) h9) (fun _ => ?_)
  refine sw_ic 1 dX7_trade_43 ?_
  refine sw_goto (tgt := 79) dX7_trade_44 rfl ?_
  refine px_Vx mv_X7_92 (A0_X7_holds (k := 1) (by decide) (by decide)) rfl rfl (Nat.le_of_ble_eq_true rfl) (Nat.le_of_ble_eq_true rfl) ko_65 (Nat.le_of_ble_eq_true rfl) dX7_trade_79 ?_
  refine sw_if_ne (tgt := 87) dX7_trade_82 rfl (fun h9 => absurd (by decide) h9) (fun _ => ?_)
  refine sw_ic 0 dX7_trade_85 ?_
  exact sw_ireturn rfl dX7_trade_86
set_option maxRecDepth 100000 in
set_option maxHeartbeats 4000000 in
theorem N5_trade {d : Nat → Nat → Int32} {r : Nat → Nat → Option Nat} {J : Nat → Nat → Int64} {V : Nat → Int32} {n : Nat} {H S : Nat → Nat → Int32} {t : Nat → Bool} {T : Nat → Int32} {tl : Nat} (h : RM d V n H S t T tl) (iv : IV V n H S t T tl) {a : Nat} (ha : a < 8) {c : Nat} (hc : c < 4) {b : Nat} (hb : b < 8) {e : Nat} (he : e < 4) (hab : nI a = nI b) {u3 : Int32} {u6 : Int32} : ∃ d1, OP kX7_trade yX7_trade 2 [.ref 65, .int (nI a), .int (nI c), .int u3, .int (nI b), .int (nI e), .int u6] d r J (some (.int (nI 0))) d1 r J ∧ RM d1 V n H S t T tl ∧ d1 65 7 = nI 2 ∧ fc d d1 := by
  obtain ⟨okP, okM, okT9, okC, okW, okD⟩ := id iv.1
  have hV : mV d = V := h.2.1
  have hm8 := okM.2
  refine ⟨d2 d 65 7 (nI 2), op_of pl_X7_trade (Nat.le_of_ble_eq_true rfl) ?_, RM_th h, d2_eq _ _ _ _, fc_d2 (fc_refl d) (by decide)⟩
  refine sw_iload_n (i := 1) dX7_trade_0 rfl rfl ?_
  refine px_Sx ms_X7_88 (A1_X7_isIslander ha) rfl rfl (Nat.le_of_ble_eq_true rfl) (Nat.le_of_ble_eq_true rfl) (Nat.le_of_ble_eq_true rfl) dX7_trade_1 ?_
  refine sw_if_eq (tgt := 34) dX7_trade_4 rfl (fun h9 => absurd h9 (by decide)) (fun _ => ?_)
  refine sw_iload (i := 4) dX7_trade_7 rfl ?_
  refine px_Sx ms_X7_88 (A1_X7_isIslander hb) rfl rfl (Nat.le_of_ble_eq_true rfl) (Nat.le_of_ble_eq_true rfl) (Nat.le_of_ble_eq_true rfl) dX7_trade_9 ?_
  refine sw_if_eq (tgt := 34) dX7_trade_12 rfl (fun h9 => absurd h9 (by decide)) (fun _ => ?_)
  refine sw_iload_n (i := 2) dX7_trade_15 rfl rfl ?_
  refine sw_ins (pc2 := 16) rfl rfl ?_
  refine px_Sx ms_X7_105 (A1_X7_isColour hc) rfl rfl (Nat.le_of_ble_eq_true rfl) (Nat.le_of_ble_eq_true rfl) (Nat.le_of_ble_eq_true rfl) dX7_trade_16 ?_
  refine sw_if_eq (tgt := 34) dX7_trade_19 rfl (fun h9 => absurd h9 (by decide)) (fun _ => ?_)
  refine sw_iload (i := 5) dX7_trade_22 rfl ?_
  refine px_Sx ms_X7_105 (A1_X7_isColour he) rfl rfl (Nat.le_of_ble_eq_true rfl) (Nat.le_of_ble_eq_true rfl) (Nat.le_of_ble_eq_true rfl) dX7_trade_24 ?_
  refine sw_if_eq (tgt := 34) dX7_trade_27 rfl (fun h9 => absurd h9 (by decide)) (fun _ => ?_)
  refine sw_ic 1 dX7_trade_30 ?_
  refine sw_goto (tgt := 35) dX7_trade_31 rfl ?_
  refine sw_istore (i := 7) dX7_trade_35 (Nat.le_of_ble_eq_true rfl) rfl ?_
  refine sw_lo (lo2 := [some (.ref 65), some (.int _), some (.int _), some (.int _), some (.int _), some (.int _), some (.int _), some (.int _), none]) rfl ?_
  refine sw_ins (pc2 := 37) rfl rfl ?_
  refine sw_aload_n (i := 0) dX7_trade_37 rfl rfl ?_
  refine sw_iload (i := 7) dX7_trade_38 rfl ?_
  refine sw_if_ne (tgt := 47) dX7_trade_40 rfl (fun _ => ?_) (fun h9 => absurd h9 (by decide))
  refine sw_iload_n (i := 1) dX7_trade_47 rfl rfl ?_
  refine sw_iload (i := 4) dX7_trade_48 rfl ?_
  refine sw_ic_eq (tgt := 74) dX7_trade_50 rfl (fun _ => ?_) (fun h9 => absurd hab h9)
  refine sw_ic 2 dX7_trade_74 ?_
  refine sw_goto (tgt := 79) dX7_trade_75 rfl ?_
  refine sw_ins (pc2 := 79) rfl rfl ?_
  refine px_Vx mv_X7_92 (A0_X7_holds (k := 2) (by decide) (by decide)) rfl rfl (Nat.le_of_ble_eq_true rfl) (Nat.le_of_ble_eq_true rfl) ko_65 (Nat.le_of_ble_eq_true rfl) dX7_trade_79 ?_
  refine sw_if_ne (tgt := 87) dX7_trade_82 rfl (fun h9 => absurd (by decide) h9) (fun _ => ?_)
  refine sw_ic 0 dX7_trade_85 ?_
  exact sw_ireturn rfl dX7_trade_86
set_option maxRecDepth 100000 in
set_option maxHeartbeats 4000000 in
theorem N6_trade {d : Nat → Nat → Int32} {r : Nat → Nat → Option Nat} {J : Nat → Nat → Int64} {V : Nat → Int32} {n : Nat} {H S : Nat → Nat → Int32} {t : Nat → Bool} {T : Nat → Int32} {tl : Nat} (h : RM d V n H S t T tl) (iv : IV V n H S t T tl) {a : Nat} (ha : a < 8) {c : Nat} (hc : c < 4) {b : Nat} (hb : b < 8) {e : Nat} (he : e < 4) (hab : ¬ nI a = nI b) {z : Int32} (q : z < nI 0 ∨ ¬ z ≤ nI 99) {u6 : Int32} : ∃ d1, OP kX7_trade yX7_trade 2 [.ref 65, .int (nI a), .int (nI c), .int z, .int (nI b), .int (nI e), .int u6] d r J (some (.int (nI 0))) d1 r J ∧ RM d1 V n H S t T tl ∧ d1 65 7 = nI 2 ∧ fc d d1 := by
  obtain ⟨okP, okM, okT9, okC, okW, okD⟩ := id iv.1
  have hV : mV d = V := h.2.1
  have hm8 := okM.2
  refine ⟨d2 d 65 7 (nI 2), op_of pl_X7_trade (Nat.le_of_ble_eq_true rfl) ?_, RM_th h, d2_eq _ _ _ _, fc_d2 (fc_refl d) (by decide)⟩
  refine sw_iload_n (i := 1) dX7_trade_0 rfl rfl ?_
  refine px_Sx ms_X7_88 (A1_X7_isIslander ha) rfl rfl (Nat.le_of_ble_eq_true rfl) (Nat.le_of_ble_eq_true rfl) (Nat.le_of_ble_eq_true rfl) dX7_trade_1 ?_
  refine sw_if_eq (tgt := 34) dX7_trade_4 rfl (fun h9 => absurd h9 (by decide)) (fun _ => ?_)
  refine sw_iload (i := 4) dX7_trade_7 rfl ?_
  refine px_Sx ms_X7_88 (A1_X7_isIslander hb) rfl rfl (Nat.le_of_ble_eq_true rfl) (Nat.le_of_ble_eq_true rfl) (Nat.le_of_ble_eq_true rfl) dX7_trade_9 ?_
  refine sw_if_eq (tgt := 34) dX7_trade_12 rfl (fun h9 => absurd h9 (by decide)) (fun _ => ?_)
  refine sw_iload_n (i := 2) dX7_trade_15 rfl rfl ?_
  refine sw_ins (pc2 := 16) rfl rfl ?_
  refine px_Sx ms_X7_105 (A1_X7_isColour hc) rfl rfl (Nat.le_of_ble_eq_true rfl) (Nat.le_of_ble_eq_true rfl) (Nat.le_of_ble_eq_true rfl) dX7_trade_16 ?_
  refine sw_if_eq (tgt := 34) dX7_trade_19 rfl (fun h9 => absurd h9 (by decide)) (fun _ => ?_)
  refine sw_iload (i := 5) dX7_trade_22 rfl ?_
  refine px_Sx ms_X7_105 (A1_X7_isColour he) rfl rfl (Nat.le_of_ble_eq_true rfl) (Nat.le_of_ble_eq_true rfl) (Nat.le_of_ble_eq_true rfl) dX7_trade_24 ?_
  refine sw_if_eq (tgt := 34) dX7_trade_27 rfl (fun h9 => absurd h9 (by decide)) (fun _ => ?_)
  refine sw_ic 1 dX7_trade_30 ?_
  refine sw_goto (tgt := 35) dX7_trade_31 rfl ?_
  refine sw_istore (i := 7) dX7_trade_35 (Nat.le_of_ble_eq_true rfl) rfl ?_
  refine sw_lo (lo2 := [some (.ref 65), some (.int _), some (.int _), some (.int _), some (.int _), some (.int _), some (.int _), some (.int _), none]) rfl ?_
  refine sw_ins (pc2 := 37) rfl rfl ?_
  refine sw_aload_n (i := 0) dX7_trade_37 rfl rfl ?_
  refine sw_iload (i := 7) dX7_trade_38 rfl ?_
  refine sw_if_ne (tgt := 47) dX7_trade_40 rfl (fun _ => ?_) (fun h9 => absurd h9 (by decide))
  refine sw_iload_n (i := 1) dX7_trade_47 rfl rfl ?_
  refine sw_iload (i := 4) dX7_trade_48 rfl ?_
  refine sw_ic_eq (tgt := 74) dX7_trade_50 rfl (fun h9 => absurd h9 hab) (fun _ => ?_)
  refine sw_iload_n (i := 3) dX7_trade_53 rfl rfl ?_
  refine sw_ic 0 dX7_trade_54 ?_
  refine sw_ins (pc2 := 55) rfl rfl ?_
  refine sw_bi 99 dX7_trade_55 (by decide +kernel) ?_
  refine px_Sx ms_X7_39 (A0_X7_in (in_r (lo := 0) (hi := 99) q)) rfl rfl (Nat.le_of_ble_eq_true rfl) (Nat.le_of_ble_eq_true rfl) (Nat.le_of_ble_eq_true rfl) dX7_trade_57 ?_
  refine sw_if_eq (tgt := 74) dX7_trade_60 rfl (fun _ => ?_) (fun h9 => absurd (by decide) h9)
  refine sw_ic 2 dX7_trade_74 ?_
  refine sw_goto (tgt := 79) dX7_trade_75 rfl ?_
  refine px_Vx mv_X7_92 (A0_X7_holds (k := 2) (by decide) (by decide)) rfl rfl (Nat.le_of_ble_eq_true rfl) (Nat.le_of_ble_eq_true rfl) ko_65 (Nat.le_of_ble_eq_true rfl) dX7_trade_79 ?_
  refine sw_if_ne (tgt := 87) dX7_trade_82 rfl (fun h9 => absurd (by decide) h9) (fun _ => ?_)
  refine sw_ic 0 dX7_trade_85 ?_
  refine sw_ins (pc2 := 86) rfl rfl ?_
  exact sw_ireturn rfl dX7_trade_86
set_option maxRecDepth 100000 in
set_option maxHeartbeats 4000000 in
theorem N7_trade {d : Nat → Nat → Int32} {r : Nat → Nat → Option Nat} {J : Nat → Nat → Int64} {V : Nat → Int32} {n : Nat} {H S : Nat → Nat → Int32} {t : Nat → Bool} {T : Nat → Int32} {tl : Nat} (h : RM d V n H S t T tl) (iv : IV V n H S t T tl) {a : Nat} (ha : a < 8) {c : Nat} (hc : c < 4) {b : Nat} (hb : b < 8) {e : Nat} (he : e < 4) (hab : ¬ nI a = nI b) {x : Nat} (hx : x ≤ 99) {z : Int32} (q : z < nI 0 ∨ ¬ z ≤ nI 99) : ∃ d1, OP kX7_trade yX7_trade 2 [.ref 65, .int (nI a), .int (nI c), .int (nI x), .int (nI b), .int (nI e), .int z] d r J (some (.int (nI 0))) d1 r J ∧ RM d1 V n H S t T tl ∧ d1 65 7 = nI 2 ∧ fc d d1 := by
  obtain ⟨okP, okM, okT9, okC, okW, okD⟩ := id iv.1
  have hV : mV d = V := h.2.1
  have hm8 := okM.2
  refine ⟨d2 d 65 7 (nI 2), op_of pl_X7_trade (Nat.le_of_ble_eq_true rfl) ?_, RM_th h, d2_eq _ _ _ _, fc_d2 (fc_refl d) (by decide)⟩
  refine sw_iload_n (i := 1) dX7_trade_0 rfl rfl ?_
  refine px_Sx ms_X7_88 (A1_X7_isIslander ha) rfl rfl (Nat.le_of_ble_eq_true rfl) (Nat.le_of_ble_eq_true rfl) (Nat.le_of_ble_eq_true rfl) dX7_trade_1 ?_
  refine sw_if_eq (tgt := 34) dX7_trade_4 rfl (fun h9 => absurd h9 (by decide)) (fun _ => ?_)
  refine sw_iload (i := 4) dX7_trade_7 rfl ?_
  refine px_Sx ms_X7_88 (A1_X7_isIslander hb) rfl rfl (Nat.le_of_ble_eq_true rfl) (Nat.le_of_ble_eq_true rfl) (Nat.le_of_ble_eq_true rfl) dX7_trade_9 ?_
  refine sw_if_eq (tgt := 34) dX7_trade_12 rfl (fun h9 => absurd h9 (by decide)) (fun _ => ?_)
  refine sw_iload_n (i := 2) dX7_trade_15 rfl rfl ?_
  refine sw_ins (pc2 := 16) rfl rfl ?_
  refine px_Sx ms_X7_105 (A1_X7_isColour hc) rfl rfl (Nat.le_of_ble_eq_true rfl) (Nat.le_of_ble_eq_true rfl) (Nat.le_of_ble_eq_true rfl) dX7_trade_16 ?_
  refine sw_if_eq (tgt := 34) dX7_trade_19 rfl (fun h9 => absurd h9 (by decide)) (fun _ => ?_)
  refine sw_iload (i := 5) dX7_trade_22 rfl ?_
  refine px_Sx ms_X7_105 (A1_X7_isColour he) rfl rfl (Nat.le_of_ble_eq_true rfl) (Nat.le_of_ble_eq_true rfl) (Nat.le_of_ble_eq_true rfl) dX7_trade_24 ?_
  refine sw_if_eq (tgt := 34) dX7_trade_27 rfl (fun h9 => absurd h9 (by decide)) (fun _ => ?_)
  refine sw_ic 1 dX7_trade_30 ?_
  refine sw_goto (tgt := 35) dX7_trade_31 rfl ?_
  refine sw_istore (i := 7) dX7_trade_35 (Nat.le_of_ble_eq_true rfl) rfl ?_
  refine sw_lo (lo2 := [some (.ref 65), some (.int _), some (.int _), some (.int _), some (.int _), some (.int _), some (.int _), some (.int _), none]) rfl ?_
  refine sw_ins (pc2 := 37) rfl rfl ?_
  refine sw_aload_n (i := 0) dX7_trade_37 rfl rfl ?_
  refine sw_iload (i := 7) dX7_trade_38 rfl ?_
  refine sw_if_ne (tgt := 47) dX7_trade_40 rfl (fun _ => ?_) (fun h9 => absurd h9 (by decide))
  refine sw_iload_n (i := 1) dX7_trade_47 rfl rfl ?_
  refine sw_iload (i := 4) dX7_trade_48 rfl ?_
  refine sw_ic_eq (tgt := 74) dX7_trade_50 rfl (fun h9 => absurd h9 hab) (fun _ => ?_)
  refine sw_iload_n (i := 3) dX7_trade_53 rfl rfl ?_
  refine sw_ic 0 dX7_trade_54 ?_
  refine sw_ins (pc2 := 55) rfl rfl ?_
  refine sw_bi 99 dX7_trade_55 (by decide +kernel) ?_
  refine px_Sx ms_X7_39 (A1_X7_in (in_s (lo := 0) (hi := 99) (Nat.zero_le _) hx (by decide))) rfl rfl (Nat.le_of_ble_eq_true rfl) (Nat.le_of_ble_eq_true rfl) (Nat.le_of_ble_eq_true rfl) dX7_trade_57 ?_
  refine sw_if_eq (tgt := 74) dX7_trade_60 rfl (fun h9 => absurd h9 (by decide)) (fun _ => ?_)
  refine sw_iload (i := 6) dX7_trade_63 rfl ?_
  refine sw_ic 0 dX7_trade_65 ?_
  refine sw_bi 99 dX7_trade_66 (by decide +kernel) ?_
  refine px_Sx ms_X7_39 (A0_X7_in (in_r (lo := 0) (hi := 99) q)) rfl rfl (Nat.le_of_ble_eq_true rfl) (Nat.le_of_ble_eq_true rfl) (Nat.le_of_ble_eq_true rfl) dX7_trade_68 ?_
  refine sw_if_ne (tgt := 78) dX7_trade_71 rfl (fun h9 => absurd (by decide) h9) (fun _ => ?_)
  refine sw_ins (pc2 := 74) rfl rfl ?_
  refine sw_ic 2 dX7_trade_74 ?_
  refine sw_goto (tgt := 79) dX7_trade_75 rfl ?_
  refine px_Vx mv_X7_92 (A0_X7_holds (k := 2) (by decide) (by decide)) rfl rfl (Nat.le_of_ble_eq_true rfl) (Nat.le_of_ble_eq_true rfl) ko_65 (Nat.le_of_ble_eq_true rfl) dX7_trade_79 ?_
  refine sw_if_ne (tgt := 87) dX7_trade_82 rfl (fun h9 => absurd (by decide) h9) (fun _ => ?_)
  refine sw_ic 0 dX7_trade_85 ?_
  exact sw_ireturn rfl dX7_trade_86
set_option maxRecDepth 100000 in
set_option maxHeartbeats 4000000 in
theorem M_trade {d : Nat → Nat → Int32} {r : Nat → Nat → Option Nat} {J : Nat → Nat → Int64} {V : Nat → Int32} {n : Nat} {H S : Nat → Nat → Int32} {t : Nat → Bool} {T : Nat → Int32} {tl : Nat} (h : RM d V n H S t T tl) (iv : IV V n H S t T tl) {a c b e x y : Nat} (ha : a < 8) (hc : c < 4) (hb : b < 8) (he : e < 4) (hab : ¬ nI a = nI b) (hx : x ≤ 99) (hy : y ≤ 99) : ∃ d1, OP kX7_trade yX7_trade 2 [.ref 65, .int (nI a), .int (nI c), .int (nI x), .int (nI b), .int (nI e), .int (nI y)] d r J (some (.int (rsn V a c b e (nI x) (nI y)))) d1 r J ∧ RM d1 (trd V a c (nI x) b e (nI y)) (psN n) (psH H n V) S t T tl ∧ d1 65 7 = nI 0 ∧ fc d d1 := by
  obtain ⟨okP, okM, okT9, okC, okW, okD⟩ := id iv.1
  have hV : mV d = V := h.2.1
  have hm8 := okM.2
  have h0 := RM_th (x := nI 0) h
  obtain ⟨e1, s1, h1, k1, f1⟩ := M_save (r := r) (J := J) h0
  have k1 : e1 65 7 = nI 0 := k1.trans (d2_eq _ _ _ _)
  have f1 : fc d e1 := fc_tr (fc_d2 (fc_refl d) (by decide)) f1
  have v1 : mV e1 = V := h1.2.1
  have hr := A_X7_reasonOf (d := e1) (r := r) (J := J) v1 okW okD ha hc hb he hx hy
  unfold trd
  by_cases z : rsn V a c b e (nI x) (nI y) = 0
  · rw [if_pos z, z]
    rw [z] at hr
    obtain ⟨x1, a1, b1, c1⟩ := A_X7_give (d := e1) (r := r) (J := J) (x := nI x) ha hb hc
    obtain ⟨x2, a2, b2, c2⟩ := A_X7_give (d := x1) (r := r) (J := J) (x := nI y) hb ha he
    rw [v1] at b1
    rw [b1] at b2
    obtain ⟨r1, r2, r3⟩ := RM_chg (d1 := d2 x2 66 2 (hnd (hnd V a b c (nI x)) b a e (nI y) 2 + nI 1)) (V' := upd (hnd (hnd V a b c (nI x)) b a e (nI y)) 2 (hnd (hnd V a b c (nI x)) b a e (nI y) 2 + nI 1)) h1 (by rw [mV_d2 _ _ (by decide) rfl, b2]) (fun c q1 q2 q3 => by rw [d2_off _ _ q1, c2 c q1, c1 c q1])
    refine ⟨_, op_of pl_X7_trade (Nat.le_of_ble_eq_true rfl) ?_, r1, r2.trans k1, fc_tr f1 r3⟩
    refine sw_iload_n (i := 1) dX7_trade_0 rfl rfl ?_
    refine px_Sx ms_X7_88 (A1_X7_isIslander ha) rfl rfl (Nat.le_of_ble_eq_true rfl) (Nat.le_of_ble_eq_true rfl) (Nat.le_of_ble_eq_true rfl) dX7_trade_1 ?_
    refine sw_if_eq (tgt := 34) dX7_trade_4 rfl (fun h9 => absurd h9 (by decide)) (fun _ => ?_)
    refine sw_iload (i := 4) dX7_trade_7 rfl ?_
    refine px_Sx ms_X7_88 (A1_X7_isIslander hb) rfl rfl (Nat.le_of_ble_eq_true rfl) (Nat.le_of_ble_eq_true rfl) (Nat.le_of_ble_eq_true rfl) dX7_trade_9 ?_
    refine sw_if_eq (tgt := 34) dX7_trade_12 rfl (fun h9 => absurd h9 (by decide)) (fun _ => ?_)
    refine sw_iload_n (i := 2) dX7_trade_15 rfl rfl ?_
    refine sw_ins (pc2 := 16) rfl rfl ?_
    refine px_Sx ms_X7_105 (A1_X7_isColour hc) rfl rfl (Nat.le_of_ble_eq_true rfl) (Nat.le_of_ble_eq_true rfl) (Nat.le_of_ble_eq_true rfl) dX7_trade_16 ?_
    refine sw_if_eq (tgt := 34) dX7_trade_19 rfl (fun h9 => absurd h9 (by decide)) (fun _ => ?_)
    refine sw_iload (i := 5) dX7_trade_22 rfl ?_
    refine px_Sx ms_X7_105 (A1_X7_isColour he) rfl rfl (Nat.le_of_ble_eq_true rfl) (Nat.le_of_ble_eq_true rfl) (Nat.le_of_ble_eq_true rfl) dX7_trade_24 ?_
    refine sw_if_eq (tgt := 34) dX7_trade_27 rfl (fun h9 => absurd h9 (by decide)) (fun _ => ?_)
    refine sw_ic 1 dX7_trade_30 ?_
    refine sw_goto (tgt := 35) dX7_trade_31 rfl ?_
    refine sw_istore (i := 7) dX7_trade_35 (Nat.le_of_ble_eq_true rfl) rfl ?_
    refine sw_lo (lo2 := [some (.ref 65), some (.int _), some (.int _), some (.int _), some (.int _), some (.int _), some (.int _), some (.int _), none]) rfl ?_
    refine sw_ins (pc2 := 37) rfl rfl ?_
    refine sw_aload_n (i := 0) dX7_trade_37 rfl rfl ?_
    refine sw_iload (i := 7) dX7_trade_38 rfl ?_
    refine sw_if_ne (tgt := 47) dX7_trade_40 rfl (fun _ => ?_) (fun h9 => absurd h9 (by decide))
    refine sw_iload_n (i := 1) dX7_trade_47 rfl rfl ?_
    refine sw_iload (i := 4) dX7_trade_48 rfl ?_
    refine sw_ic_eq (tgt := 74) dX7_trade_50 rfl (fun h9 => absurd h9 hab) (fun _ => ?_)
    refine sw_iload_n (i := 3) dX7_trade_53 rfl rfl ?_
    refine sw_ic 0 dX7_trade_54 ?_
    refine sw_ins (pc2 := 55) rfl rfl ?_
    refine sw_bi 99 dX7_trade_55 (by decide +kernel) ?_
    refine px_Sx ms_X7_39 (A1_X7_in (in_s (lo := 0) (hi := 99) (Nat.zero_le _) hx (by decide))) rfl rfl (Nat.le_of_ble_eq_true rfl) (Nat.le_of_ble_eq_true rfl) (Nat.le_of_ble_eq_true rfl) dX7_trade_57 ?_
    refine sw_if_eq (tgt := 74) dX7_trade_60 rfl (fun h9 => absurd h9 (by decide)) (fun _ => ?_)
    refine sw_iload (i := 6) dX7_trade_63 rfl ?_
    refine sw_ic 0 dX7_trade_65 ?_
    refine sw_bi 99 dX7_trade_66 (by decide +kernel) ?_
    refine px_Sx ms_X7_39 (A1_X7_in (in_s (lo := 0) (hi := 99) (Nat.zero_le _) hy (by decide))) rfl rfl (Nat.le_of_ble_eq_true rfl) (Nat.le_of_ble_eq_true rfl) (Nat.le_of_ble_eq_true rfl) dX7_trade_68 ?_
    refine sw_if_ne (tgt := 78) dX7_trade_71 rfl (fun _ => ?_) (fun h9 => absurd h9 (by decide))
    refine sw_ins (pc2 := 78) rfl rfl ?_
    refine sw_ic 0 dX7_trade_78 ?_
    refine px_Vx mv_X7_92 A1_X7_holds rfl rfl (Nat.le_of_ble_eq_true rfl) (Nat.le_of_ble_eq_true rfl) ko_65 (Nat.le_of_ble_eq_true rfl) dX7_trade_79 ?_
    refine sw_if_ne (tgt := 87) dX7_trade_82 rfl (fun _ => ?_) (fun h9 => absurd h9 (by decide))
    refine sw_aload_n (i := 0) dX7_trade_87 rfl rfl ?_
    refine px_Vv mv_X7_95 s1 rfl rfl (Nat.le_of_ble_eq_true rfl) (Nat.le_of_ble_eq_true rfl) ko_65 (Nat.le_of_ble_eq_true rfl) dX7_trade_88 ?_
    refine sw_aload_n (i := 0) dX7_trade_91 rfl rfl ?_
    refine sw_iload_n (i := 1) dX7_trade_92 rfl rfl ?_
    refine sw_iload_n (i := 2) dX7_trade_93 rfl rfl ?_
    refine sw_ins (pc2 := 94) rfl rfl ?_
    refine sw_iload_n (i := 3) dX7_trade_94 rfl rfl ?_
    refine sw_iload (i := 4) dX7_trade_95 rfl ?_
    refine sw_iload (i := 5) dX7_trade_97 rfl ?_
    refine sw_iload (i := 6) dX7_trade_99 rfl ?_
    refine px_Vx mv_X7_108 hr rfl rfl (Nat.le_of_ble_eq_true rfl) (Nat.le_of_ble_eq_true rfl) ko_65 (Nat.le_of_ble_eq_true rfl) dX7_trade_101 ?_
    refine sw_istore (i := 8) dX7_trade_104 (Nat.le_of_ble_eq_true rfl) rfl ?_
    refine sw_lo (lo2 := [some (.ref 65), some (.int _), some (.int _), some (.int _), some (.int _), some (.int _), some (.int _), some (.int _), some (.int _)]) rfl ?_
    refine sw_iload (i := 8) dX7_trade_106 rfl ?_
    refine sw_if_le (tgt := 118) dX7_trade_108 rfl (fun _ => ?_) (fun h9 => absurd (by decide) h9)
    refine sw_ins (pc2 := 118) rfl rfl ?_
    refine sw_aload_n (i := 0) dX7_trade_118 rfl rfl ?_
    refine sw_iload_n (i := 1) dX7_trade_119 rfl rfl ?_
    refine sw_iload (i := 4) dX7_trade_120 rfl ?_
    refine sw_iload_n (i := 2) dX7_trade_122 rfl rfl ?_
    refine sw_iload_n (i := 3) dX7_trade_123 rfl rfl ?_
    refine px_Vv mv_X7_84 a1 rfl rfl (Nat.le_of_ble_eq_true rfl) (Nat.le_of_ble_eq_true rfl) ko_65 (Nat.le_of_ble_eq_true rfl) dX7_trade_124 ?_
    refine sw_aload_n (i := 0) dX7_trade_127 rfl rfl ?_
    refine sw_iload (i := 4) dX7_trade_128 rfl ?_
    refine sw_ins (pc2 := 130) rfl rfl ?_
    refine sw_iload_n (i := 1) dX7_trade_130 rfl rfl ?_
    refine sw_iload (i := 5) dX7_trade_131 rfl ?_
    refine sw_iload (i := 6) dX7_trade_133 rfl ?_
    refine px_Vv mv_X7_84 a2 rfl rfl (Nat.le_of_ble_eq_true rfl) (Nat.le_of_ble_eq_true rfl) ko_65 (Nat.le_of_ble_eq_true rfl) dX7_trade_135 ?_
    refine sw_aload_n (i := 0) dX7_trade_138 rfl rfl ?_
    refine sx_getR (q := 66) f_X7_7 (by decide) kr_65_0 dX7_trade_139 ?_
    refine sw_ic 2 dX7_trade_142 ?_
    refine sw_dup2 dX7_trade_143 rfl rfl ?_
    refine sw_ins (pc2 := 144) rfl rfl ?_
    refine sx_ialdE (2) (hnd (hnd V a b c (nI x)) b a e (nI y) 2) ((mV_in x2 (by decide) rfl).trans (congrFun b2 2)) rfl rfl (by omega) dX7_trade_144 ?_
    refine sw_ic 1 dX7_trade_145 ?_
    refine sw_iadd dX7_trade_146 ?_
    refine sx_iast (2) rfl rfl (by omega) dX7_trade_147 ?_
    refine sw_ic 0 dX7_trade_148 ?_
    exact sw_ireturn rfl dX7_trade_149
  · rw [if_neg z]
    have hz : ¬ rsn V a c b e (nI x) (nI y) ≤ 0 := by
      unfold rsn at z ⊢
      by_cases p1 : V (19 + (a * 4 + c)) < nI x
      · rw [if_pos p1]; decide
      · rw [if_neg p1] at z ⊢
        by_cases p2 : V (19 + (b * 4 + e)) < nI y
        · rw [if_pos p2]; decide
        · rw [if_neg p2] at z ⊢
          by_cases p3 : (if 0 ≤ dff V c e (nI x) (nI y) then dff V c e (nI x) (nI y) else 0 - dff V c e (nI x) (nI y)) ≤ V 6
          · rw [if_pos p3] at z
            exact absurd rfl z
          · rw [if_neg p3]; decide
    obtain ⟨x1, a1, a2, a3⟩ := A_X7_refuse (d := e1) (r := r) (J := J) (x := rsn V a c b e (nI x) (nI y))
    rw [v1] at a2
    obtain ⟨r1, r2, r3⟩ := RM_chg h1 a2 (fun c q1 q2 q3 => a3 c q1)
    refine ⟨x1, op_of pl_X7_trade (Nat.le_of_ble_eq_true rfl) ?_, r1, r2.trans k1, fc_tr f1 r3⟩
    refine sw_iload_n (i := 1) dX7_trade_0 rfl rfl ?_
    refine px_Sx ms_X7_88 (A1_X7_isIslander ha) rfl rfl (Nat.le_of_ble_eq_true rfl) (Nat.le_of_ble_eq_true rfl) (Nat.le_of_ble_eq_true rfl) dX7_trade_1 ?_
    refine sw_if_eq (tgt := 34) dX7_trade_4 rfl (fun h9 => absurd h9 (by decide)) (fun _ => ?_)
    refine sw_iload (i := 4) dX7_trade_7 rfl ?_
    refine px_Sx ms_X7_88 (A1_X7_isIslander hb) rfl rfl (Nat.le_of_ble_eq_true rfl) (Nat.le_of_ble_eq_true rfl) (Nat.le_of_ble_eq_true rfl) dX7_trade_9 ?_
    refine sw_if_eq (tgt := 34) dX7_trade_12 rfl (fun h9 => absurd h9 (by decide)) (fun _ => ?_)
    refine sw_iload_n (i := 2) dX7_trade_15 rfl rfl ?_
    refine sw_ins (pc2 := 16) rfl rfl ?_
    refine px_Sx ms_X7_105 (A1_X7_isColour hc) rfl rfl (Nat.le_of_ble_eq_true rfl) (Nat.le_of_ble_eq_true rfl) (Nat.le_of_ble_eq_true rfl) dX7_trade_16 ?_
    refine sw_if_eq (tgt := 34) dX7_trade_19 rfl (fun h9 => absurd h9 (by decide)) (fun _ => ?_)
    refine sw_iload (i := 5) dX7_trade_22 rfl ?_
    refine px_Sx ms_X7_105 (A1_X7_isColour he) rfl rfl (Nat.le_of_ble_eq_true rfl) (Nat.le_of_ble_eq_true rfl) (Nat.le_of_ble_eq_true rfl) dX7_trade_24 ?_
    refine sw_if_eq (tgt := 34) dX7_trade_27 rfl (fun h9 => absurd h9 (by decide)) (fun _ => ?_)
    refine sw_ic 1 dX7_trade_30 ?_
    refine sw_goto (tgt := 35) dX7_trade_31 rfl ?_
    refine sw_istore (i := 7) dX7_trade_35 (Nat.le_of_ble_eq_true rfl) rfl ?_
    refine sw_lo (lo2 := [some (.ref 65), some (.int _), some (.int _), some (.int _), some (.int _), some (.int _), some (.int _), some (.int _), none]) rfl ?_
    refine sw_ins (pc2 := 37) rfl rfl ?_
    refine sw_aload_n (i := 0) dX7_trade_37 rfl rfl ?_
    refine sw_iload (i := 7) dX7_trade_38 rfl ?_
    refine sw_if_ne (tgt := 47) dX7_trade_40 rfl (fun _ => ?_) (fun h9 => absurd h9 (by decide))
    refine sw_iload_n (i := 1) dX7_trade_47 rfl rfl ?_
    refine sw_iload (i := 4) dX7_trade_48 rfl ?_
    refine sw_ic_eq (tgt := 74) dX7_trade_50 rfl (fun h9 => absurd h9 hab) (fun _ => ?_)
    refine sw_iload_n (i := 3) dX7_trade_53 rfl rfl ?_
    refine sw_ic 0 dX7_trade_54 ?_
    refine sw_ins (pc2 := 55) rfl rfl ?_
    refine sw_bi 99 dX7_trade_55 (by decide +kernel) ?_
    refine px_Sx ms_X7_39 (A1_X7_in (in_s (lo := 0) (hi := 99) (Nat.zero_le _) hx (by decide))) rfl rfl (Nat.le_of_ble_eq_true rfl) (Nat.le_of_ble_eq_true rfl) (Nat.le_of_ble_eq_true rfl) dX7_trade_57 ?_
    refine sw_if_eq (tgt := 74) dX7_trade_60 rfl (fun h9 => absurd h9 (by decide)) (fun _ => ?_)
    refine sw_iload (i := 6) dX7_trade_63 rfl ?_
    refine sw_ic 0 dX7_trade_65 ?_
    refine sw_bi 99 dX7_trade_66 (by decide +kernel) ?_
    refine px_Sx ms_X7_39 (A1_X7_in (in_s (lo := 0) (hi := 99) (Nat.zero_le _) hy (by decide))) rfl rfl (Nat.le_of_ble_eq_true rfl) (Nat.le_of_ble_eq_true rfl) (Nat.le_of_ble_eq_true rfl) dX7_trade_68 ?_
    refine sw_if_ne (tgt := 78) dX7_trade_71 rfl (fun _ => ?_) (fun h9 => absurd h9 (by decide))
    refine sw_ins (pc2 := 78) rfl rfl ?_
    refine sw_ic 0 dX7_trade_78 ?_
    refine px_Vx mv_X7_92 A1_X7_holds rfl rfl (Nat.le_of_ble_eq_true rfl) (Nat.le_of_ble_eq_true rfl) ko_65 (Nat.le_of_ble_eq_true rfl) dX7_trade_79 ?_
    refine sw_if_ne (tgt := 87) dX7_trade_82 rfl (fun _ => ?_) (fun h9 => absurd h9 (by decide))
    refine sw_aload_n (i := 0) dX7_trade_87 rfl rfl ?_
    refine px_Vv mv_X7_95 s1 rfl rfl (Nat.le_of_ble_eq_true rfl) (Nat.le_of_ble_eq_true rfl) ko_65 (Nat.le_of_ble_eq_true rfl) dX7_trade_88 ?_
    refine sw_aload_n (i := 0) dX7_trade_91 rfl rfl ?_
    refine sw_iload_n (i := 1) dX7_trade_92 rfl rfl ?_
    refine sw_iload_n (i := 2) dX7_trade_93 rfl rfl ?_
    refine sw_ins (pc2 := 94) rfl rfl ?_
    refine sw_iload_n (i := 3) dX7_trade_94 rfl rfl ?_
    refine sw_iload (i := 4) dX7_trade_95 rfl ?_
    refine sw_iload (i := 5) dX7_trade_97 rfl ?_
    refine sw_iload (i := 6) dX7_trade_99 rfl ?_
    refine px_Vx mv_X7_108 hr rfl rfl (Nat.le_of_ble_eq_true rfl) (Nat.le_of_ble_eq_true rfl) ko_65 (Nat.le_of_ble_eq_true rfl) dX7_trade_101 ?_
    refine sw_istore (i := 8) dX7_trade_104 (Nat.le_of_ble_eq_true rfl) rfl ?_
    refine sw_lo (lo2 := [some (.ref 65), some (.int _), some (.int _), some (.int _), some (.int _), some (.int _), some (.int _), some (.int _), some (.int _)]) rfl ?_
    refine sw_iload (i := 8) dX7_trade_106 rfl ?_
    refine sw_if_le (tgt := 118) dX7_trade_108 rfl (fun h9 => absurd h9 hz) (fun _ => ?_)
    refine sw_ins (pc2 := 111) rfl rfl ?_
    refine sw_aload_n (i := 0) dX7_trade_111 rfl rfl ?_
    refine sw_iload (i := 8) dX7_trade_112 rfl ?_
    refine px_Vx mv_X7_78 a1 rfl rfl (Nat.le_of_ble_eq_true rfl) (Nat.le_of_ble_eq_true rfl) ko_65 (Nat.le_of_ble_eq_true rfl) dX7_trade_114 ?_
    exact sw_ireturn rfl dX7_trade_117
set_option maxRecDepth 100000 in
set_option maxHeartbeats 4000000 in
theorem N1_worth {d : Nat → Nat → Int32} {r : Nat → Nat → Option Nat} {J : Nat → Nat → Int64} {V : Nat → Int32} {n : Nat} {H S : Nat → Nat → Int32} {t : Nat → Bool} {T : Nat → Int32} {tl : Nat} (h : RM d V n H S t T tl) (iv : IV V n H S t T tl) {x y : Int32} (hx : x < 0 ∨ ¬ x < nI 4) : ∃ d1, OP kX7_worth yX7_worth 2 [.ref 65, .int x, .int y] d r J (some (.int (nI 0))) d1 r J ∧ RM d1 V n H S t T tl ∧ d1 65 7 = nI 1 ∧ fc d d1 := by
  obtain ⟨okP, okM, okT9, okC, okW, okD⟩ := id iv.1
  have hV : mV d = V := h.2.1
  have hm8 := okM.2
  refine ⟨d2 d 65 7 (nI 1), op_of pl_X7_worth (Nat.le_of_ble_eq_true rfl) ?_, RM_th h, d2_eq _ _ _ _, fc_d2 (fc_refl d) (by decide)⟩
  refine sw_aload_n (i := 0) dX7_worth_0 rfl rfl ?_
  refine sw_iload_n (i := 1) dX7_worth_1 rfl rfl ?_
  refine px_Sx ms_X7_105 (A0_X7_isColour hx) rfl rfl (Nat.le_of_ble_eq_true rfl) (Nat.le_of_ble_eq_true rfl) (Nat.le_of_ble_eq_true rfl) dX7_worth_2 ?_
  refine sw_if_ne (tgt := 12) dX7_worth_5 rfl (fun h9 => absurd (by decide) h9) (fun _ => ?_)
  refine sw_ic 1 dX7_worth_8 ?_
  refine sw_goto (tgt := 27) dX7_worth_9 rfl ?_
  refine px_Vx mv_X7_92 (A0_X7_holds (k := 1) (by decide) (by decide)) rfl rfl (Nat.le_of_ble_eq_true rfl) (Nat.le_of_ble_eq_true rfl) ko_65 (Nat.le_of_ble_eq_true rfl) dX7_worth_27 ?_
  refine sw_ins (pc2 := 30) rfl rfl ?_
  refine sw_if_ne (tgt := 35) dX7_worth_30 rfl (fun h9 => absurd (by decide) h9) (fun _ => ?_)
  refine sw_ic 0 dX7_worth_33 ?_
  exact sw_ireturn rfl dX7_worth_34
set_option maxRecDepth 100000 in
set_option maxHeartbeats 4000000 in
theorem N2_worth {d : Nat → Nat → Int32} {r : Nat → Nat → Option Nat} {J : Nat → Nat → Int64} {V : Nat → Int32} {n : Nat} {H S : Nat → Nat → Int32} {t : Nat → Bool} {T : Nat → Int32} {tl : Nat} (h : RM d V n H S t T tl) (iv : IV V n H S t T tl) {c : Nat} {y : Int32} (hc : c < 4) (hy : y < nI 1 ∨ ¬ y ≤ nI 9) : ∃ d1, OP kX7_worth yX7_worth 2 [.ref 65, .int (nI c), .int y] d r J (some (.int (nI 0))) d1 r J ∧ RM d1 V n H S t T tl ∧ d1 65 7 = nI 2 ∧ fc d d1 := by
  obtain ⟨okP, okM, okT9, okC, okW, okD⟩ := id iv.1
  have hV : mV d = V := h.2.1
  have hm8 := okM.2
  refine ⟨d2 d 65 7 (nI 2), op_of pl_X7_worth (Nat.le_of_ble_eq_true rfl) ?_, RM_th h, d2_eq _ _ _ _, fc_d2 (fc_refl d) (by decide)⟩
  refine sw_aload_n (i := 0) dX7_worth_0 rfl rfl ?_
  refine sw_iload_n (i := 1) dX7_worth_1 rfl rfl ?_
  refine px_Sx ms_X7_105 (A1_X7_isColour hc) rfl rfl (Nat.le_of_ble_eq_true rfl) (Nat.le_of_ble_eq_true rfl) (Nat.le_of_ble_eq_true rfl) dX7_worth_2 ?_
  refine sw_if_ne (tgt := 12) dX7_worth_5 rfl (fun _ => ?_) (fun h9 => absurd h9 (by decide))
  refine sw_iload_n (i := 2) dX7_worth_12 rfl rfl ?_
  refine sw_ic 1 dX7_worth_13 ?_
  refine sw_bi 9 dX7_worth_14 (by decide +kernel) ?_
  refine sw_ins (pc2 := 16) rfl rfl ?_
  refine px_Sx ms_X7_39 (A0_X7_in (in_r (lo := 1) (hi := 9) hy)) rfl rfl (Nat.le_of_ble_eq_true rfl) (Nat.le_of_ble_eq_true rfl) (Nat.le_of_ble_eq_true rfl) dX7_worth_16 ?_
  refine sw_if_eq (tgt := 26) dX7_worth_19 rfl (fun _ => ?_) (fun h9 => absurd (by decide) h9)
  refine sw_ic 2 dX7_worth_26 ?_
  refine px_Vx mv_X7_92 (A0_X7_holds (k := 2) (by decide) (by decide)) rfl rfl (Nat.le_of_ble_eq_true rfl) (Nat.le_of_ble_eq_true rfl) ko_65 (Nat.le_of_ble_eq_true rfl) dX7_worth_27 ?_
  refine sw_if_ne (tgt := 35) dX7_worth_30 rfl (fun h9 => absurd (by decide) h9) (fun _ => ?_)
  refine sw_ic 0 dX7_worth_33 ?_
  exact sw_ireturn rfl dX7_worth_34
set_option maxRecDepth 100000 in
set_option maxHeartbeats 4000000 in
theorem M_worth {d : Nat → Nat → Int32} {r : Nat → Nat → Option Nat} {J : Nat → Nat → Int64} {V : Nat → Int32} {n : Nat} {H S : Nat → Nat → Int32} {t : Nat → Bool} {T : Nat → Int32} {tl : Nat} (h : RM d V n H S t T tl) (iv : IV V n H S t T tl) {c w : Nat} (hc : c < 4) (hw : 1 ≤ w) (hw9 : w ≤ 9) : ∃ d1, OP kX7_worth yX7_worth 2 [.ref 65, .int (nI c), .int (nI w)] d r J (some (.int (V (7 + c)))) d1 r J ∧ RM d1 (upd V (7 + c) (nI w)) (psN n) (psH H n V) S t T tl ∧ d1 65 7 = nI 0 ∧ fc d d1 := by
  obtain ⟨okP, okM, okT9, okC, okW, okD⟩ := id iv.1
  have hV : mV d = V := h.2.1
  have hm8 := okM.2
  have h0 := RM_th (x := nI 0) h
  obtain ⟨e1, s1, h1, k1, f1⟩ := M_save (r := r) (J := J) h0
  have k1 : e1 65 7 = nI 0 := k1.trans (d2_eq _ _ _ _)
  have f1 : fc d e1 := fc_tr (fc_d2 (fc_refl d) (by decide)) f1
  have v1 : mV e1 = V := h1.2.1
  obtain ⟨r1, r2, r3⟩ := RM_chg (d1 := d2 e1 66 (7 + c) (nI w)) (V' := upd V (7 + c) (nI w)) h1 (by rw [mV_d2 _ _ (by omega) rfl, v1]) (fun c q1 q2 q3 => d2_off _ _ q1)
  refine ⟨_, op_of pl_X7_worth (Nat.le_of_ble_eq_true rfl) ?_, r1, r2.trans k1, fc_tr f1 r3⟩
  refine sw_aload_n (i := 0) dX7_worth_0 rfl rfl ?_
  refine sw_iload_n (i := 1) dX7_worth_1 rfl rfl ?_
  refine px_Sx ms_X7_105 (A1_X7_isColour hc) rfl rfl (Nat.le_of_ble_eq_true rfl) (Nat.le_of_ble_eq_true rfl) (Nat.le_of_ble_eq_true rfl) dX7_worth_2 ?_
  refine sw_if_ne (tgt := 12) dX7_worth_5 rfl (fun _ => ?_) (fun h9 => absurd h9 (by decide))
  refine sw_iload_n (i := 2) dX7_worth_12 rfl rfl ?_
  refine sw_ic 1 dX7_worth_13 ?_
  refine sw_bi 9 dX7_worth_14 (by decide +kernel) ?_
  refine sw_ins (pc2 := 16) rfl rfl ?_
  refine px_Sx ms_X7_39 (A1_X7_in (in_s (lo := 1) (hi := 9) hw hw9 (by decide))) rfl rfl (Nat.le_of_ble_eq_true rfl) (Nat.le_of_ble_eq_true rfl) (Nat.le_of_ble_eq_true rfl) dX7_worth_16 ?_
  refine sw_if_eq (tgt := 26) dX7_worth_19 rfl (fun h9 => absurd h9 (by decide)) (fun _ => ?_)
  refine sw_ic 0 dX7_worth_22 ?_
  refine sw_goto (tgt := 27) dX7_worth_23 rfl ?_
  refine px_Vx mv_X7_92 A1_X7_holds rfl rfl (Nat.le_of_ble_eq_true rfl) (Nat.le_of_ble_eq_true rfl) ko_65 (Nat.le_of_ble_eq_true rfl) dX7_worth_27 ?_
  refine sw_if_ne (tgt := 35) dX7_worth_30 rfl (fun _ => ?_) (fun h9 => absurd h9 (by decide))
  refine sw_aload_n (i := 0) dX7_worth_35 rfl rfl ?_
  refine px_Vv mv_X7_95 s1 rfl rfl (Nat.le_of_ble_eq_true rfl) (Nat.le_of_ble_eq_true rfl) ko_65 (Nat.le_of_ble_eq_true rfl) dX7_worth_36 ?_
  refine sw_ins (pc2 := 39) rfl rfl ?_
  refine sw_aload_n (i := 0) dX7_worth_39 rfl rfl ?_
  refine sx_getR (q := 66) f_X7_7 (by decide) kr_65_0 dX7_worth_40 ?_
  refine sw_bi 7 dX7_worth_43 (by decide +kernel) ?_
  refine sw_iload_n (i := 1) dX7_worth_45 rfl rfl ?_
  refine sw_iadd dX7_worth_46 ?_
  refine sx_ialdE (7 + c) (V (7 + c)) ((mV_in e1 (by omega) rfl).trans (congrFun v1 _)) rfl (by simp only [nI_add, pk_mul]) (by omega) dX7_worth_47 ?_
  refine sw_istore_n (i := 3) dX7_worth_48 rfl (Nat.le_of_ble_eq_true rfl) rfl ?_
  refine sw_lo (lo2 := [some (.ref 65), some (.int _), some (.int _), some (.int _)]) rfl ?_
  refine sw_aload_n (i := 0) dX7_worth_49 rfl rfl ?_
  refine sw_ins (pc2 := 50) rfl rfl ?_
  refine sx_getR (q := 66) f_X7_7 (by decide) kr_65_0 dX7_worth_50 ?_
  refine sw_bi 7 dX7_worth_53 (by decide +kernel) ?_
  refine sw_iload_n (i := 1) dX7_worth_55 rfl rfl ?_
  refine sw_iadd dX7_worth_56 ?_
  refine sw_iload_n (i := 2) dX7_worth_57 rfl rfl ?_
  refine sx_iast (7 + c) rfl (by simp only [nI_add, pk_mul]) (by omega) dX7_worth_58 ?_
  refine sw_iload_n (i := 3) dX7_worth_59 rfl rfl ?_
  exact sw_ireturn rfl dX7_worth_60
set_option maxRecDepth 100000 in
set_option maxHeartbeats 4000000 in
theorem N_set {d : Nat → Nat → Int32} {r : Nat → Nat → Option Nat} {J : Nat → Nat → Int64} {V : Nat → Int32} {n : Nat} {H S : Nat → Nat → Int32} {t : Nat → Bool} {T : Nat → Int32} {tl : Nat} (h : RM d V n H S t T tl) (iv : IV V n H S t T tl) {x : Int32} (hx : x < nI 0 ∨ ¬ x ≤ nI 9) : ∃ d1, OP kX7_set yX7_set 2 [.ref 65, .int x] d r J (some (.int (nI 0))) d1 r J ∧ RM d1 V n H S t T tl ∧ d1 65 7 = nI 1 ∧ fc d d1 := by
  obtain ⟨okP, okM, okT9, okC, okW, okD⟩ := id iv.1
  have hV : mV d = V := h.2.1
  have hm8 := okM.2
  refine ⟨d2 d 65 7 (nI 1), op_of pl_X7_set (Nat.le_of_ble_eq_true rfl) ?_, RM_th h, d2_eq _ _ _ _, fc_d2 (fc_refl d) (by decide)⟩
  refine sw_aload_n (i := 0) dX7_set_0 rfl rfl ?_
  refine sw_iload_n (i := 1) dX7_set_1 rfl rfl ?_
  refine sw_ic 0 dX7_set_2 ?_
  refine sw_bi 9 dX7_set_3 (by decide +kernel) ?_
  refine px_Sx ms_X7_39 (A0_X7_in (in_r (lo := 0) (hi := 9) hx)) rfl rfl (Nat.le_of_ble_eq_true rfl) (Nat.le_of_ble_eq_true rfl) (Nat.le_of_ble_eq_true rfl) dX7_set_5 ?_
  refine sw_if_eq (tgt := 15) dX7_set_8 rfl (fun _ => ?_) (fun h9 => absurd (by decide) h9)
  refine sw_ic 1 dX7_set_15 ?_
  refine sw_ins (pc2 := 16) rfl rfl ?_
  refine px_Vx mv_X7_92 (A0_X7_holds (k := 1) (by decide) (by decide)) rfl rfl (Nat.le_of_ble_eq_true rfl) (Nat.le_of_ble_eq_true rfl) ko_65 (Nat.le_of_ble_eq_true rfl) dX7_set_16 ?_
  refine sw_if_ne (tgt := 24) dX7_set_19 rfl (fun h9 => absurd (by decide) h9) (fun _ => ?_)
  refine sw_ic 0 dX7_set_22 ?_
  exact sw_ireturn rfl dX7_set_23
set_option maxRecDepth 100000 in
set_option maxHeartbeats 4000000 in
theorem M_set {d : Nat → Nat → Int32} {r : Nat → Nat → Option Nat} {J : Nat → Nat → Int64} {V : Nat → Int32} {n : Nat} {H S : Nat → Nat → Int32} {t : Nat → Bool} {T : Nat → Int32} {tl : Nat} (h : RM d V n H S t T tl) (iv : IV V n H S t T tl) {w : Nat} (hw9 : w ≤ 9) : ∃ d1, OP kX7_set yX7_set 2 [.ref 65, .int (nI w)] d r J (some (.int (V 6))) d1 r J ∧ RM d1 (upd V 6 (nI w)) (psN n) (psH H n V) S t T tl ∧ d1 65 7 = nI 0 ∧ fc d d1 := by
  obtain ⟨okP, okM, okT9, okC, okW, okD⟩ := id iv.1
  have hV : mV d = V := h.2.1
  have hm8 := okM.2
  have h0 := RM_th (x := nI 0) h
  obtain ⟨e1, s1, h1, k1, f1⟩ := M_save (r := r) (J := J) h0
  have k1 : e1 65 7 = nI 0 := k1.trans (d2_eq _ _ _ _)
  have f1 : fc d e1 := fc_tr (fc_d2 (fc_refl d) (by decide)) f1
  have v1 : mV e1 = V := h1.2.1
  obtain ⟨r1, r2, r3⟩ := RM_chg (d1 := d2 e1 66 6 (nI w)) (V' := upd V 6 (nI w)) h1 (by rw [mV_d2 _ _ (by decide) rfl, v1]) (fun c q1 q2 q3 => d2_off _ _ q1)
  refine ⟨_, op_of pl_X7_set (Nat.le_of_ble_eq_true rfl) ?_, r1, r2.trans k1, fc_tr f1 r3⟩
  refine sw_aload_n (i := 0) dX7_set_0 rfl rfl ?_
  refine sw_iload_n (i := 1) dX7_set_1 rfl rfl ?_
  refine sw_ic 0 dX7_set_2 ?_
  refine sw_bi 9 dX7_set_3 (by decide +kernel) ?_
  refine px_Sx ms_X7_39 (A1_X7_in (in_s (lo := 0) (hi := 9) (Nat.zero_le _) hw9 (by decide))) rfl rfl (Nat.le_of_ble_eq_true rfl) (Nat.le_of_ble_eq_true rfl) (Nat.le_of_ble_eq_true rfl) dX7_set_5 ?_
  refine sw_if_eq (tgt := 15) dX7_set_8 rfl (fun h9 => absurd h9 (by decide)) (fun _ => ?_)
  refine sw_ic 0 dX7_set_11 ?_
  refine sw_ins (pc2 := 12) rfl rfl ?_
  refine sw_goto (tgt := 16) dX7_set_12 rfl ?_
  refine px_Vx mv_X7_92 A1_X7_holds rfl rfl (Nat.le_of_ble_eq_true rfl) (Nat.le_of_ble_eq_true rfl) ko_65 (Nat.le_of_ble_eq_true rfl) dX7_set_16 ?_
  refine sw_if_ne (tgt := 24) dX7_set_19 rfl (fun _ => ?_) (fun h9 => absurd h9 (by decide))
  refine sw_aload_n (i := 0) dX7_set_24 rfl rfl ?_
  refine px_Vv mv_X7_95 s1 rfl rfl (Nat.le_of_ble_eq_true rfl) (Nat.le_of_ble_eq_true rfl) ko_65 (Nat.le_of_ble_eq_true rfl) dX7_set_25 ?_
  refine sw_aload_n (i := 0) dX7_set_28 rfl rfl ?_
  refine sx_getR (q := 66) f_X7_7 (by decide) kr_65_0 dX7_set_29 ?_
  refine sw_bi 6 dX7_set_32 (by decide +kernel) ?_
  refine sw_ins (pc2 := 34) rfl rfl ?_
  refine sx_ialdE (6) (V 6) ((mV_in e1 (by decide) rfl).trans (congrFun v1 _)) rfl rfl (by omega) dX7_set_34 ?_
  refine sw_istore_n (i := 2) dX7_set_35 rfl (Nat.le_of_ble_eq_true rfl) rfl ?_
  refine sw_lo (lo2 := [some (.ref 65), some (.int _), some (.int _)]) rfl ?_
  refine sw_aload_n (i := 0) dX7_set_36 rfl rfl ?_
  refine sx_getR (q := 66) f_X7_7 (by decide) kr_65_0 dX7_set_37 ?_
  refine sw_bi 6 dX7_set_40 (by decide +kernel) ?_
  refine sw_iload_n (i := 1) dX7_set_42 rfl rfl ?_
  refine sx_iast (6) rfl rfl (by omega) dX7_set_43 ?_
  refine sw_iload_n (i := 2) dX7_set_44 rfl rfl ?_
  refine sw_ins (pc2 := 45) rfl rfl ?_
  exact sw_ireturn rfl dX7_set_45
set_option maxRecDepth 100000 in
set_option maxHeartbeats 4000000 in
theorem N1_promise {d : Nat → Nat → Int32} {r : Nat → Nat → Option Nat} {J : Nat → Nat → Int64} {V : Nat → Int32} {n : Nat} {H S : Nat → Nat → Int32} {t : Nat → Bool} {T : Nat → Int32} {tl : Nat} (h : RM d V n H S t T tl) (iv : IV V n H S t T tl) {z : Int32} (q : z < 0 ∨ ¬ z < nI 8) {u2 : Int32} {u3 : Int32} {u4 : Int32} : ∃ d1, OP kX7_promise yX7_promise 3 [.ref 65, .int z, .int u2, .int u3, .int u4] d r J (some (.int (nI 0))) d1 r J ∧ RM d1 V n H S t T tl ∧ d1 65 7 = nI 1 ∧ fc d d1 := by
  obtain ⟨okP, okM, okT9, okC, okW, okD⟩ := id iv.1
  have hV : mV d = V := h.2.1
  have hm8 := okM.2
  refine ⟨d2 d 65 7 (nI 1), op_of pl_X7_promise (Nat.le_of_ble_eq_true rfl) ?_, RM_th h, d2_eq _ _ _ _, fc_d2 (fc_refl d) (by decide)⟩
  refine sw_aload_n (i := 0) dX7_promise_0 rfl rfl ?_
  refine sw_iload_n (i := 1) dX7_promise_1 rfl rfl ?_
  refine sw_iload_n (i := 2) dX7_promise_2 rfl rfl ?_
  refine sw_iload_n (i := 3) dX7_promise_3 rfl rfl ?_
  refine sw_iload (i := 4) dX7_promise_4 rfl ?_
  refine px_Sx ms_X7_112 (P1_X7_promiseError q) rfl rfl (Nat.le_of_ble_eq_true rfl) (Nat.le_of_ble_eq_true rfl) (Nat.le_of_ble_eq_true rfl) dX7_promise_6 ?_
  refine px_Vx mv_X7_92 (A0_X7_holds (k := 1) (by decide) (by decide)) rfl rfl (Nat.le_of_ble_eq_true rfl) (Nat.le_of_ble_eq_true rfl) ko_65 (Nat.le_of_ble_eq_true rfl) dX7_promise_9 ?_
  refine sw_ins (pc2 := 12) rfl rfl ?_
  refine sw_if_ne (tgt := 17) dX7_promise_12 rfl (fun h9 => absurd (by decide) h9) (fun _ => ?_)
  refine sw_ic 0 dX7_promise_15 ?_
  exact sw_ireturn rfl dX7_promise_16
set_option maxRecDepth 100000 in
set_option maxHeartbeats 4000000 in
theorem N2_promise {d : Nat → Nat → Int32} {r : Nat → Nat → Option Nat} {J : Nat → Nat → Int64} {V : Nat → Int32} {n : Nat} {H S : Nat → Nat → Int32} {t : Nat → Bool} {T : Nat → Int32} {tl : Nat} (h : RM d V n H S t T tl) (iv : IV V n H S t T tl) {a : Nat} (ha : a < 8) {z : Int32} (q : z < 0 ∨ ¬ z < nI 8) {u3 : Int32} {u4 : Int32} : ∃ d1, OP kX7_promise yX7_promise 3 [.ref 65, .int (nI a), .int z, .int u3, .int u4] d r J (some (.int (nI 0))) d1 r J ∧ RM d1 V n H S t T tl ∧ d1 65 7 = nI 1 ∧ fc d d1 := by
  obtain ⟨okP, okM, okT9, okC, okW, okD⟩ := id iv.1
  have hV : mV d = V := h.2.1
  have hm8 := okM.2
  refine ⟨d2 d 65 7 (nI 1), op_of pl_X7_promise (Nat.le_of_ble_eq_true rfl) ?_, RM_th h, d2_eq _ _ _ _, fc_d2 (fc_refl d) (by decide)⟩
  refine sw_aload_n (i := 0) dX7_promise_0 rfl rfl ?_
  refine sw_iload_n (i := 1) dX7_promise_1 rfl rfl ?_
  refine sw_iload_n (i := 2) dX7_promise_2 rfl rfl ?_
  refine sw_iload_n (i := 3) dX7_promise_3 rfl rfl ?_
  refine sw_iload (i := 4) dX7_promise_4 rfl ?_
  refine px_Sx ms_X7_112 (P2_X7_promiseError ha q) rfl rfl (Nat.le_of_ble_eq_true rfl) (Nat.le_of_ble_eq_true rfl) (Nat.le_of_ble_eq_true rfl) dX7_promise_6 ?_
  refine px_Vx mv_X7_92 (A0_X7_holds (k := 1) (by decide) (by decide)) rfl rfl (Nat.le_of_ble_eq_true rfl) (Nat.le_of_ble_eq_true rfl) ko_65 (Nat.le_of_ble_eq_true rfl) dX7_promise_9 ?_
  refine sw_ins (pc2 := 12) rfl rfl ?_
  refine sw_if_ne (tgt := 17) dX7_promise_12 rfl (fun h9 => absurd (by decide) h9) (fun _ => ?_)
  refine sw_ic 0 dX7_promise_15 ?_
  exact sw_ireturn rfl dX7_promise_16
set_option maxRecDepth 100000 in
set_option maxHeartbeats 4000000 in
theorem N3_promise {d : Nat → Nat → Int32} {r : Nat → Nat → Option Nat} {J : Nat → Nat → Int64} {V : Nat → Int32} {n : Nat} {H S : Nat → Nat → Int32} {t : Nat → Bool} {T : Nat → Int32} {tl : Nat} (h : RM d V n H S t T tl) (iv : IV V n H S t T tl) {a b : Nat} (ha : a < 8) (hb : b < 8) (hab : nI a = nI b) {u3 : Int32} {u4 : Int32} : ∃ d1, OP kX7_promise yX7_promise 3 [.ref 65, .int (nI a), .int (nI b), .int u3, .int u4] d r J (some (.int (nI 0))) d1 r J ∧ RM d1 V n H S t T tl ∧ d1 65 7 = nI 2 ∧ fc d d1 := by
  obtain ⟨okP, okM, okT9, okC, okW, okD⟩ := id iv.1
  have hV : mV d = V := h.2.1
  have hm8 := okM.2
  refine ⟨d2 d 65 7 (nI 2), op_of pl_X7_promise (Nat.le_of_ble_eq_true rfl) ?_, RM_th h, d2_eq _ _ _ _, fc_d2 (fc_refl d) (by decide)⟩
  refine sw_aload_n (i := 0) dX7_promise_0 rfl rfl ?_
  refine sw_iload_n (i := 1) dX7_promise_1 rfl rfl ?_
  refine sw_iload_n (i := 2) dX7_promise_2 rfl rfl ?_
  refine sw_iload_n (i := 3) dX7_promise_3 rfl rfl ?_
  refine sw_iload (i := 4) dX7_promise_4 rfl ?_
  refine px_Sx ms_X7_112 (P3_X7_promiseError ha hb hab) rfl rfl (Nat.le_of_ble_eq_true rfl) (Nat.le_of_ble_eq_true rfl) (Nat.le_of_ble_eq_true rfl) dX7_promise_6 ?_
  refine px_Vx mv_X7_92 (A0_X7_holds (k := 2) (by decide) (by decide)) rfl rfl (Nat.le_of_ble_eq_true rfl) (Nat.le_of_ble_eq_true rfl) ko_65 (Nat.le_of_ble_eq_true rfl) dX7_promise_9 ?_
  refine sw_ins (pc2 := 12) rfl rfl ?_
  refine sw_if_ne (tgt := 17) dX7_promise_12 rfl (fun h9 => absurd (by decide) h9) (fun _ => ?_)
  refine sw_ic 0 dX7_promise_15 ?_
  exact sw_ireturn rfl dX7_promise_16
set_option maxRecDepth 100000 in
set_option maxHeartbeats 4000000 in
theorem N4_promise {d : Nat → Nat → Int32} {r : Nat → Nat → Option Nat} {J : Nat → Nat → Int64} {V : Nat → Int32} {n : Nat} {H S : Nat → Nat → Int32} {t : Nat → Bool} {T : Nat → Int32} {tl : Nat} (h : RM d V n H S t T tl) (iv : IV V n H S t T tl) {a b : Nat} (ha : a < 8) (hb : b < 8) (hab : ¬ nI a = nI b) {z : Int32} (q : z < nI 1 ∨ ¬ z ≤ nI 99) {u4 : Int32} : ∃ d1, OP kX7_promise yX7_promise 3 [.ref 65, .int (nI a), .int (nI b), .int z, .int u4] d r J (some (.int (nI 0))) d1 r J ∧ RM d1 V n H S t T tl ∧ d1 65 7 = nI 2 ∧ fc d d1 := by
  obtain ⟨okP, okM, okT9, okC, okW, okD⟩ := id iv.1
  have hV : mV d = V := h.2.1
  have hm8 := okM.2
  refine ⟨d2 d 65 7 (nI 2), op_of pl_X7_promise (Nat.le_of_ble_eq_true rfl) ?_, RM_th h, d2_eq _ _ _ _, fc_d2 (fc_refl d) (by decide)⟩
  refine sw_aload_n (i := 0) dX7_promise_0 rfl rfl ?_
  refine sw_iload_n (i := 1) dX7_promise_1 rfl rfl ?_
  refine sw_iload_n (i := 2) dX7_promise_2 rfl rfl ?_
  refine sw_iload_n (i := 3) dX7_promise_3 rfl rfl ?_
  refine sw_iload (i := 4) dX7_promise_4 rfl ?_
  refine px_Sx ms_X7_112 (P4_X7_promiseError ha hb hab q) rfl rfl (Nat.le_of_ble_eq_true rfl) (Nat.le_of_ble_eq_true rfl) (Nat.le_of_ble_eq_true rfl) dX7_promise_6 ?_
  refine px_Vx mv_X7_92 (A0_X7_holds (k := 2) (by decide) (by decide)) rfl rfl (Nat.le_of_ble_eq_true rfl) (Nat.le_of_ble_eq_true rfl) ko_65 (Nat.le_of_ble_eq_true rfl) dX7_promise_9 ?_
  refine sw_ins (pc2 := 12) rfl rfl ?_
  refine sw_if_ne (tgt := 17) dX7_promise_12 rfl (fun h9 => absurd (by decide) h9) (fun _ => ?_)
  refine sw_ic 0 dX7_promise_15 ?_
  exact sw_ireturn rfl dX7_promise_16
set_option maxRecDepth 100000 in
set_option maxHeartbeats 4000000 in
theorem N5_promise {d : Nat → Nat → Int32} {r : Nat → Nat → Option Nat} {J : Nat → Nat → Int64} {V : Nat → Int32} {n : Nat} {H S : Nat → Nat → Int32} {t : Nat → Bool} {T : Nat → Int32} {tl : Nat} (h : RM d V n H S t T tl) (iv : IV V n H S t T tl) {a b s : Nat} (ha : a < 8) (hb : b < 8) (hab : ¬ nI a = nI b) (hs : 1 ≤ s) (hs9 : s ≤ 99) {z : Int32} (q : z < nI 0 ∨ ¬ z ≤ nI 9) : ∃ d1, OP kX7_promise yX7_promise 3 [.ref 65, .int (nI a), .int (nI b), .int (nI s), .int z] d r J (some (.int (nI 0))) d1 r J ∧ RM d1 V n H S t T tl ∧ d1 65 7 = nI 2 ∧ fc d d1 := by
  obtain ⟨okP, okM, okT9, okC, okW, okD⟩ := id iv.1
  have hV : mV d = V := h.2.1
  have hm8 := okM.2
  refine ⟨d2 d 65 7 (nI 2), op_of pl_X7_promise (Nat.le_of_ble_eq_true rfl) ?_, RM_th h, d2_eq _ _ _ _, fc_d2 (fc_refl d) (by decide)⟩
  refine sw_aload_n (i := 0) dX7_promise_0 rfl rfl ?_
  refine sw_iload_n (i := 1) dX7_promise_1 rfl rfl ?_
  refine sw_iload_n (i := 2) dX7_promise_2 rfl rfl ?_
  refine sw_iload_n (i := 3) dX7_promise_3 rfl rfl ?_
  refine sw_iload (i := 4) dX7_promise_4 rfl ?_
  refine px_Sx ms_X7_112 (P5_X7_promiseError ha hb hab hs hs9 q) rfl rfl (Nat.le_of_ble_eq_true rfl) (Nat.le_of_ble_eq_true rfl) (Nat.le_of_ble_eq_true rfl) dX7_promise_6 ?_
  refine px_Vx mv_X7_92 (A0_X7_holds (k := 2) (by decide) (by decide)) rfl rfl (Nat.le_of_ble_eq_true rfl) (Nat.le_of_ble_eq_true rfl) ko_65 (Nat.le_of_ble_eq_true rfl) dX7_promise_9 ?_
  refine sw_ins (pc2 := 12) rfl rfl ?_
  refine sw_if_ne (tgt := 17) dX7_promise_12 rfl (fun h9 => absurd (by decide) h9) (fun _ => ?_)
  refine sw_ic 0 dX7_promise_15 ?_
  exact sw_ireturn rfl dX7_promise_16
set_option maxRecDepth 100000 in
set_option maxHeartbeats 4000000 in
theorem M_promise {d : Nat → Nat → Int32} {r : Nat → Nat → Option Nat} {J : Nat → Nat → Int64} {V : Nat → Int32} {n : Nat} {H S : Nat → Nat → Int32} {t : Nat → Bool} {T : Nat → Int32} {tl : Nat} (h : RM d V n H S t T tl) (iv : IV V n H S t T tl) {a b s y : Nat} (ha : a < 8) (hb : b < 8) (hab : ¬ nI a = nI b) (hs : 1 ≤ s) (hs9 : s ≤ 99) (hy : y ≤ 9) : ∃ d1, OP kX7_promise yX7_promise 3 [.ref 65, .int (nI a), .int (nI b), .int (nI s), .int (nI y)] d r J (some (.int (mkR V))) d1 r J ∧ RM d1 (mkV V (nI a) (nI b) (nI s) (nI y)) (psN n) (psH H n V) S t T tl ∧ d1 65 7 = nI 0 ∧ fc d d1 := by
  obtain ⟨okP, okM, okT9, okC, okW, okD⟩ := id iv.1
  have hV : mV d = V := h.2.1
  have hm8 := okM.2
  have h0 := RM_th (x := nI 0) h
  obtain ⟨e1, s1, h1, k1, f1⟩ := M_save (r := r) (J := J) h0
  have k1 : e1 65 7 = nI 0 := k1.trans (d2_eq _ _ _ _)
  have f1 : fc d e1 := fc_tr (fc_d2 (fc_refl d) (by decide)) f1
  have v1 : mV e1 = V := h1.2.1
  have pe := P6_X7_promiseError (d := d) (r := r) (J := J) ha hb hab hs hs9 hy
  unfold mkR mkV
  by_cases hm : nv V 1 < 8
  · rw [if_pos hm, if_pos hm]
    obtain ⟨d1, a1, a2, a3⟩ := A1_X7_doPromise (d := e1) (r := r) (J := J) (f := nI a) (t := nI b) (s := nI s) (dd := nI y) (by rw [v1]; exact okM) (by rw [v1]; exact hm)
    rw [v1] at a1 a2
    obtain ⟨r1, r2, r3⟩ := RM_chg h1 a2 (fun c q1 q2 q3 => a3 c q1)
    refine ⟨d1, op_of pl_X7_promise (Nat.le_of_ble_eq_true rfl) ?_, r1, r2.trans k1, fc_tr f1 r3⟩
    refine sw_aload_n (i := 0) dX7_promise_0 rfl rfl ?_
    refine sw_iload_n (i := 1) dX7_promise_1 rfl rfl ?_
    refine sw_iload_n (i := 2) dX7_promise_2 rfl rfl ?_
    refine sw_iload_n (i := 3) dX7_promise_3 rfl rfl ?_
    refine sw_iload (i := 4) dX7_promise_4 rfl ?_
    refine px_Sx ms_X7_112 pe rfl rfl (Nat.le_of_ble_eq_true rfl) (Nat.le_of_ble_eq_true rfl) (Nat.le_of_ble_eq_true rfl) dX7_promise_6 ?_
    refine px_Vx mv_X7_92 A1_X7_holds rfl rfl (Nat.le_of_ble_eq_true rfl) (Nat.le_of_ble_eq_true rfl) ko_65 (Nat.le_of_ble_eq_true rfl) dX7_promise_9 ?_
    refine sw_ins (pc2 := 12) rfl rfl ?_
    refine sw_if_ne (tgt := 17) dX7_promise_12 rfl (fun _ => ?_) (fun h9 => absurd h9 (by decide))
    refine sw_aload_n (i := 0) dX7_promise_17 rfl rfl ?_
    refine px_Vv mv_X7_95 s1 rfl rfl (Nat.le_of_ble_eq_true rfl) (Nat.le_of_ble_eq_true rfl) ko_65 (Nat.le_of_ble_eq_true rfl) dX7_promise_18 ?_
    refine sw_aload_n (i := 0) dX7_promise_21 rfl rfl ?_
    refine sw_iload_n (i := 1) dX7_promise_22 rfl rfl ?_
    refine sw_iload_n (i := 2) dX7_promise_23 rfl rfl ?_
    refine sw_iload_n (i := 3) dX7_promise_24 rfl rfl ?_
    refine sw_iload (i := 4) dX7_promise_25 rfl ?_
    refine sw_ins (pc2 := 27) rfl rfl ?_
    refine px_Vx mv_X7_116 a1 rfl rfl (Nat.le_of_ble_eq_true rfl) (Nat.le_of_ble_eq_true rfl) ko_65 (Nat.le_of_ble_eq_true rfl) dX7_promise_27 ?_
    exact sw_ireturn rfl dX7_promise_30
  · rw [if_neg hm, if_neg hm]
    obtain ⟨d1, a1, a2, a3⟩ := A0_X7_doPromise (d := e1) (r := r) (J := J) (f := nI a) (t := nI b) (s := nI s) (dd := nI y) (by rw [v1]; exact okM) (by rw [v1]; omega)
    rw [v1] at a2
    obtain ⟨r1, r2, r3⟩ := RM_chg h1 a2 (fun c q1 q2 q3 => a3 c q1)
    refine ⟨d1, op_of pl_X7_promise (Nat.le_of_ble_eq_true rfl) ?_, r1, r2.trans k1, fc_tr f1 r3⟩
    refine sw_aload_n (i := 0) dX7_promise_0 rfl rfl ?_
    refine sw_iload_n (i := 1) dX7_promise_1 rfl rfl ?_
    refine sw_iload_n (i := 2) dX7_promise_2 rfl rfl ?_
    refine sw_iload_n (i := 3) dX7_promise_3 rfl rfl ?_
    refine sw_iload (i := 4) dX7_promise_4 rfl ?_
    refine px_Sx ms_X7_112 pe rfl rfl (Nat.le_of_ble_eq_true rfl) (Nat.le_of_ble_eq_true rfl) (Nat.le_of_ble_eq_true rfl) dX7_promise_6 ?_
    refine px_Vx mv_X7_92 A1_X7_holds rfl rfl (Nat.le_of_ble_eq_true rfl) (Nat.le_of_ble_eq_true rfl) ko_65 (Nat.le_of_ble_eq_true rfl) dX7_promise_9 ?_
    refine sw_ins (pc2 := 12) rfl rfl ?_
    refine sw_if_ne (tgt := 17) dX7_promise_12 rfl (fun _ => ?_) (fun h9 => absurd h9 (by decide))
    refine sw_aload_n (i := 0) dX7_promise_17 rfl rfl ?_
    refine px_Vv mv_X7_95 s1 rfl rfl (Nat.le_of_ble_eq_true rfl) (Nat.le_of_ble_eq_true rfl) ko_65 (Nat.le_of_ble_eq_true rfl) dX7_promise_18 ?_
    refine sw_aload_n (i := 0) dX7_promise_21 rfl rfl ?_
    refine sw_iload_n (i := 1) dX7_promise_22 rfl rfl ?_
    refine sw_iload_n (i := 2) dX7_promise_23 rfl rfl ?_
    refine sw_iload_n (i := 3) dX7_promise_24 rfl rfl ?_
    refine sw_iload (i := 4) dX7_promise_25 rfl ?_
    refine sw_ins (pc2 := 27) rfl rfl ?_
    refine px_Vx mv_X7_116 a1 rfl rfl (Nat.le_of_ble_eq_true rfl) (Nat.le_of_ble_eq_true rfl) ko_65 (Nat.le_of_ble_eq_true rfl) dX7_promise_27 ?_
    exact sw_ireturn rfl dX7_promise_30
set_option maxRecDepth 100000 in
set_option maxHeartbeats 4000000 in
theorem N_fulfil {d : Nat → Nat → Int32} {r : Nat → Nat → Option Nat} {J : Nat → Nat → Int64} {V : Nat → Int32} {n : Nat} {H S : Nat → Nat → Int32} {t : Nat → Bool} {T : Nat → Int32} {tl : Nat} (h : RM d V n H S t T tl) (iv : IV V n H S t T tl) {x : Int32} (hx : x < 0 ∨ ¬ x < nI (nv V 1)) : ∃ d1, OP kX7_fulfil yX7_fulfil 6 [.ref 65, .int x] d r J (some (.int (nI 0))) d1 r J ∧ RM d1 V n H S t T tl ∧ d1 65 7 = nI 1 ∧ fc d d1 := by
  obtain ⟨okP, okM, okT9, okC, okW, okD⟩ := id iv.1
  have hV : mV d = V := h.2.1
  have hm8 := okM.2
  subst hV
  refine ⟨d2 d 65 7 (nI 1), op_of pl_X7_fulfil (Nat.le_of_ble_eq_true rfl) ?_, RM_th h, d2_eq _ _ _ _, fc_d2 (fc_refl d) (by decide)⟩
  refine sw_aload_n (i := 0) dX7_fulfil_0 rfl rfl ?_
  refine sw_aload_n (i := 0) dX7_fulfil_1 rfl rfl ?_
  refine sw_iload_n (i := 1) dX7_fulfil_2 rfl rfl ?_
  refine px_Vx mv_X7_119 (A0_X7_isPromise okM hx) rfl rfl (Nat.le_of_ble_eq_true rfl) (Nat.le_of_ble_eq_true rfl) ko_65 (Nat.le_of_ble_eq_true rfl) dX7_fulfil_3 ?_
  refine sw_if_eq (tgt := 13) dX7_fulfil_6 rfl (fun _ => ?_) (fun h9 => absurd (by decide) h9)
  refine sw_ic 1 dX7_fulfil_13 ?_
  refine px_Vx mv_X7_92 (A0_X7_holds (k := 1) (by decide) (by decide)) rfl rfl (Nat.le_of_ble_eq_true rfl) (Nat.le_of_ble_eq_true rfl) ko_65 (Nat.le_of_ble_eq_true rfl) dX7_fulfil_14 ?_
  refine sw_ins (pc2 := 17) rfl rfl ?_
  refine sw_if_ne (tgt := 22) dX7_fulfil_17 rfl (fun h9 => absurd (by decide) h9) (fun _ => ?_)
  refine sw_ic 0 dX7_fulfil_20 ?_
  exact sw_ireturn rfl dX7_fulfil_21
set_option maxRecDepth 100000 in
set_option maxHeartbeats 4000000 in
theorem M_fulfil {d : Nat → Nat → Int32} {r : Nat → Nat → Option Nat} {J : Nat → Nat → Int64} {V : Nat → Int32} {n : Nat} {H S : Nat → Nat → Int32} {t : Nat → Bool} {T : Nat → Int32} {tl : Nat} (h : RM d V n H S t T tl) (iv : IV V n H S t T tl) {q : Nat} (hq : q < nv V 1) : ∃ d1, OP kX7_fulfil yX7_fulfil 6 [.ref 65, .int (nI q)] d r J (some (.int (enc (wy V (prt V q 0) (prt V q 2))))) d1 r J ∧ RM d1 (kpV V q (wy V (prt V q 0) (prt V q 2))) (psN n) (psH H n V) S t T tl ∧ d1 65 7 = nI 0 ∧ fc d d1 := by
  obtain ⟨okP, okM, okT9, okC, okW, okD⟩ := id iv.1
  have hV : mV d = V := h.2.1
  have hm8 := okM.2
  have h0 := RM_th (x := nI 0) h
  obtain ⟨e1, s1, h1, k1, f1⟩ := M_save (r := r) (J := J) h0
  have k1 : e1 65 7 = nI 0 := k1.trans (d2_eq _ _ _ _)
  have f1 : fc d e1 := fc_tr (fc_d2 (fc_refl d) (by decide)) f1
  have v1 : mV e1 = V := h1.2.1
  obtain ⟨d1, a1, a2, a3⟩ := A_X7_doFulfil (d := e1) (r := r) (J := J) (q := q) (by rw [v1]; exact iv.1) (by rw [v1]; exact hq)
  rw [v1] at a1 a2
  obtain ⟨r1, r2, r3⟩ := RM_chg h1 a2 (fun c q1 q2 q3 => a3 c q1 q2)
  refine ⟨d1, op_of pl_X7_fulfil (Nat.le_of_ble_eq_true rfl) ?_, r1, r2.trans k1, fc_tr f1 r3⟩
  refine sw_aload_n (i := 0) dX7_fulfil_0 rfl rfl ?_
  refine sw_aload_n (i := 0) dX7_fulfil_1 rfl rfl ?_
  refine sw_iload_n (i := 1) dX7_fulfil_2 rfl rfl ?_
  refine px_Vx mv_X7_119 (A1_X7_isPromise (by rw [hV]; exact okM) (by rw [hV]; exact hq)) rfl rfl (Nat.le_of_ble_eq_true rfl) (Nat.le_of_ble_eq_true rfl) ko_65 (Nat.le_of_ble_eq_true rfl) dX7_fulfil_3 ?_
  refine sw_if_eq (tgt := 13) dX7_fulfil_6 rfl (fun h9 => absurd h9 (by decide)) (fun _ => ?_)
  refine sw_ic 0 dX7_fulfil_9 ?_
  refine sw_goto (tgt := 14) dX7_fulfil_10 rfl ?_
  refine sw_ins (pc2 := 14) rfl rfl ?_
  refine px_Vx mv_X7_92 A1_X7_holds rfl rfl (Nat.le_of_ble_eq_true rfl) (Nat.le_of_ble_eq_true rfl) ko_65 (Nat.le_of_ble_eq_true rfl) dX7_fulfil_14 ?_
  refine sw_if_ne (tgt := 22) dX7_fulfil_17 rfl (fun _ => ?_) (fun h9 => absurd h9 (by decide))
  refine sw_aload_n (i := 0) dX7_fulfil_22 rfl rfl ?_
  refine px_Vv mv_X7_95 s1 rfl rfl (Nat.le_of_ble_eq_true rfl) (Nat.le_of_ble_eq_true rfl) ko_65 (Nat.le_of_ble_eq_true rfl) dX7_fulfil_23 ?_
  refine sw_aload_n (i := 0) dX7_fulfil_26 rfl rfl ?_
  refine sw_iload_n (i := 1) dX7_fulfil_27 rfl rfl ?_
  refine px_Vx mv_X7_122 a1 rfl rfl (Nat.le_of_ble_eq_true rfl) (Nat.le_of_ble_eq_true rfl) ko_65 (Nat.le_of_ble_eq_true rfl) dX7_fulfil_28 ?_
  exact sw_ireturn rfl dX7_fulfil_31
set_option maxRecDepth 100000 in
set_option maxHeartbeats 4000000 in
theorem N1_append {d : Nat → Nat → Int32} {r : Nat → Nat → Option Nat} {J : Nat → Nat → Int64} {V : Nat → Int32} {n : Nat} {H S : Nat → Nat → Int32} {t : Nat → Bool} {T : Nat → Int32} {tl : Nat} (h : RM d V n H S t T tl) (iv : IV V n H S t T tl) {x : Int32} (hx : x < nI 33 ∨ ¬ x ≤ nI 126) : ∃ d1, OP kX7_append yX7_append 1 [.ref 65, .int x] d r J (some (.int (nI 0))) d1 r J ∧ RM d1 V n H S t T tl ∧ d1 65 7 = nI 1 ∧ fc d d1 := by
  obtain ⟨okP, okM, okT9, okC, okW, okD⟩ := id iv.1
  have hV : mV d = V := h.2.1
  have hm8 := okM.2
  refine ⟨d2 d 65 7 (nI 1), op_of pl_X7_append (Nat.le_of_ble_eq_true rfl) ?_, RM_th h, d2_eq _ _ _ _, fc_d2 (fc_refl d) (by decide)⟩
  refine sw_aload_n (i := 0) dX7_append_0 rfl rfl ?_
  refine sw_iload_n (i := 1) dX7_append_1 rfl rfl ?_
  refine sw_bi 33 dX7_append_2 (by decide +kernel) ?_
  refine sw_bi 126 dX7_append_4 (by decide +kernel) ?_
  refine px_Sx ms_X7_39 (A0_X7_in (in_r (lo := 33) (hi := 126) hx)) rfl rfl (Nat.le_of_ble_eq_true rfl) (Nat.le_of_ble_eq_true rfl) (Nat.le_of_ble_eq_true rfl) dX7_append_6 ?_
  refine sw_if_ne (tgt := 16) dX7_append_9 rfl (fun h9 => absurd (by decide) h9) (fun _ => ?_)
  refine sw_ic 1 dX7_append_12 ?_
  refine sw_ins (pc2 := 13) rfl rfl ?_
  refine sw_goto (tgt := 30) dX7_append_13 rfl ?_
  refine px_Vx mv_X7_92 (A0_X7_holds (k := 1) (by decide) (by decide)) rfl rfl (Nat.le_of_ble_eq_true rfl) (Nat.le_of_ble_eq_true rfl) ko_65 (Nat.le_of_ble_eq_true rfl) dX7_append_30 ?_
  refine sw_if_ne (tgt := 38) dX7_append_33 rfl (fun h9 => absurd (by decide) h9) (fun _ => ?_)
  refine sw_ic 0 dX7_append_36 ?_
  exact sw_ireturn rfl dX7_append_37
set_option maxRecDepth 100000 in
set_option maxHeartbeats 4000000 in
theorem N2_append {d : Nat → Nat → Int32} {r : Nat → Nat → Option Nat} {J : Nat → Nat → Int64} {V : Nat → Int32} {n : Nat} {H S : Nat → Nat → Int32} {t : Nat → Bool} {T : Nat → Int32} {tl : Nat} (h : RM d V n H S t T tl) (iv : IV V n H S t T tl) {q : Nat} (h33 : 33 ≤ q) (h126 : q ≤ 126) (hge : 60 ≤ tl) : ∃ d1, OP kX7_append yX7_append 1 [.ref 65, .int (nI q)] d r J (some (.int (nI 0))) d1 r J ∧ RM d1 V n H S t T tl ∧ d1 65 7 = nI 2 ∧ fc d d1 := by
  obtain ⟨okP, okM, okT9, okC, okW, okD⟩ := id iv.1
  have hV : mV d = V := h.2.1
  have hm8 := okM.2
  have h60 := iv.2.2.2.1
  refine ⟨d2 d 65 7 (nI 2), op_of pl_X7_append (Nat.le_of_ble_eq_true rfl) ?_, RM_th h, d2_eq _ _ _ _, fc_d2 (fc_refl d) (by decide)⟩
  refine sw_aload_n (i := 0) dX7_append_0 rfl rfl ?_
  refine sw_iload_n (i := 1) dX7_append_1 rfl rfl ?_
  refine sw_bi 33 dX7_append_2 (by decide +kernel) ?_
  refine sw_bi 126 dX7_append_4 (by decide +kernel) ?_
  refine px_Sx ms_X7_39 (A1_X7_in (in_s (lo := 33) (hi := 126) h33 h126 (by decide))) rfl rfl (Nat.le_of_ble_eq_true rfl) (Nat.le_of_ble_eq_true rfl) (Nat.le_of_ble_eq_true rfl) dX7_append_6 ?_
  refine sw_if_ne (tgt := 16) dX7_append_9 rfl (fun _ => ?_) (fun h9 => absurd h9 (by decide))
  refine sw_aload_n (i := 0) dX7_append_16 rfl rfl ?_
  refine sw_ins (pc2 := 17) rfl rfl ?_
  refine sx_getIE (nI tl) h.2.2.2.2.2.2.1 f_X7_125 (by decide) kf_65_6 dX7_append_17 ?_
  refine sw_bi 60 dX7_append_20 (by decide +kernel) ?_
  refine sw_ic_ne (tgt := 29) dX7_append_22 rfl (fun h9 => absurd (by rw [show tl = 60 by omega]) h9) (fun _ => ?_)
  refine sw_ic 2 dX7_append_25 ?_
  refine sw_goto (tgt := 30) dX7_append_26 rfl ?_
  refine px_Vx mv_X7_92 (A0_X7_holds (k := 2) (by decide) (by decide)) rfl rfl (Nat.le_of_ble_eq_true rfl) (Nat.le_of_ble_eq_true rfl) ko_65 (Nat.le_of_ble_eq_true rfl) dX7_append_30 ?_
  refine sw_if_ne (tgt := 38) dX7_append_33 rfl (fun h9 => absurd (by decide) h9) (fun _ => ?_)
  refine sw_ic 0 dX7_append_36 ?_
  refine sw_ins (pc2 := 37) rfl rfl ?_
  exact sw_ireturn rfl dX7_append_37
set_option maxRecDepth 100000 in
set_option maxHeartbeats 4000000 in
theorem M_append {d : Nat → Nat → Int32} {r : Nat → Nat → Option Nat} {J : Nat → Nat → Int64} {V : Nat → Int32} {n : Nat} {H S : Nat → Nat → Int32} {t : Nat → Bool} {T : Nat → Int32} {tl : Nat} (h : RM d V n H S t T tl) (iv : IV V n H S t T tl) {q : Nat} (h33 : 33 ≤ q) (h126 : q ≤ 126) (hlt : tl < 60) : ∃ d1, OP kX7_append yX7_append 1 [.ref 65, .int (nI q)] d r J (some (.int (nI (tl + 1)))) d1 r J ∧ RM d1 V n H S t (upd T tl (nI q)) (tl + 1) ∧ d1 65 7 = nI 0 ∧ fc d d1 := by
  obtain ⟨okP, okM, okT9, okC, okW, okD⟩ := id iv.1
  have hV : mV d = V := h.2.1
  have hm8 := okM.2
  have h60 := iv.2.2.2.1
  obtain ⟨g1, g2, g3, g4, g5, ⟨g6, g7⟩, g8, g9⟩ := id h
  refine ⟨d2 (d2 (d2 d 65 7 (nI 0)) 70 tl (nI q)) 65 6 (nI (tl + 1)), op_of pl_X7_append (Nat.le_of_ble_eq_true rfl) ?_, ⟨g1, ?_, ?_, fun i hi => ?_, ⟨fun z => ?_, fun z => ?_⟩, ⟨?_, ?_⟩, d2_eq _ _ _ _, fun i hi => ?_⟩, ?_, fc_d2 (fc_d2 (fc_d2 (fc_refl d) (by decide)) (by decide)) (by decide)⟩
  ·
    refine sw_aload_n (i := 0) dX7_append_0 rfl rfl ?_
    refine sw_iload_n (i := 1) dX7_append_1 rfl rfl ?_
    refine sw_bi 33 dX7_append_2 (by decide +kernel) ?_
    refine sw_bi 126 dX7_append_4 (by decide +kernel) ?_
    refine px_Sx ms_X7_39 (A1_X7_in (in_s (lo := 33) (hi := 126) h33 h126 (by decide))) rfl rfl (Nat.le_of_ble_eq_true rfl) (Nat.le_of_ble_eq_true rfl) (Nat.le_of_ble_eq_true rfl) dX7_append_6 ?_
    refine sw_if_ne (tgt := 16) dX7_append_9 rfl (fun _ => ?_) (fun h9 => absurd h9 (by decide))
    refine sw_aload_n (i := 0) dX7_append_16 rfl rfl ?_
    refine sw_ins (pc2 := 17) rfl rfl ?_
    refine sx_getIE (nI tl) h.2.2.2.2.2.2.1 f_X7_125 (by decide) kf_65_6 dX7_append_17 ?_
    refine sw_bi 60 dX7_append_20 (by decide +kernel) ?_
    refine sw_ic_ne (tgt := 29) dX7_append_22 rfl (fun _ => ?_) (fun h9 => absurd h9 (fun z => absurd ((nI_eq (by omega) (by omega)).mp z) (by omega)))
    refine sw_ic 0 dX7_append_29 ?_
    refine px_Vx mv_X7_92 A1_X7_holds rfl rfl (Nat.le_of_ble_eq_true rfl) (Nat.le_of_ble_eq_true rfl) ko_65 (Nat.le_of_ble_eq_true rfl) dX7_append_30 ?_
    refine sw_if_ne (tgt := 38) dX7_append_33 rfl (fun _ => ?_) (fun h9 => absurd h9 (by decide))
    refine sw_aload_n (i := 0) dX7_append_38 rfl rfl ?_
    refine sx_getR (q := 70) f_X7_23 (by decide) kr_65_5 dX7_append_39 ?_
    refine sw_ins (pc2 := 42) rfl rfl ?_
    refine sw_aload_n (i := 0) dX7_append_42 rfl rfl ?_
    refine sx_getIE (nI tl) ((d2_ne _ _ (Or.inr (by decide))).trans h.2.2.2.2.2.2.1) f_X7_125 (by decide) kf_65_6 dX7_append_43 ?_
    refine sw_iload_n (i := 1) dX7_append_46 rfl rfl ?_
    refine sx_iast (tl) rfl rfl (by omega) dX7_append_47 ?_
    refine sw_aload_n (i := 0) dX7_append_48 rfl rfl ?_
    refine sw_dup dX7_append_49 rfl ?_
    refine sx_getIE (nI tl) ((congrFun (d2_off _ _ (by decide)) _).trans ((d2_ne _ _ (Or.inr (by decide))).trans h.2.2.2.2.2.2.1)) f_X7_125 (by decide) kf_65_6 dX7_append_50 ?_
    refine sw_ic 1 dX7_append_53 ?_
    refine sw_ins (pc2 := 54) rfl rfl ?_
    refine sw_iadd dX7_append_54 ?_
    refine sw_topE (v := nI (tl + 1)) (nI_1 tl) ?_
    refine sx_putI fp_X7_125 (by decide) kf_65_6 dX7_append_55 ?_
    refine sw_aload_n (i := 0) dX7_append_58 rfl rfl ?_
    refine sx_getIE (nI (tl + 1)) (d2_eq _ _ _ _) f_X7_125 (by decide) kf_65_6 dX7_append_59 ?_
    exact sw_ireturn rfl dX7_append_62
  · refine (mV_keep ?_).trans g2
    rw [d2_off _ _ (by decide), d2_off _ _ (by decide), d2_off _ _ (by decide)]
  · rw [d2_ne _ _ (Or.inr (by decide)), d2_off _ _ (by decide), d2_ne _ _ (Or.inr (by decide))]
    exact g3
  · refine (vM_keep ?_).trans (g4 i hi)
    rw [d2_off _ _ (by decide), d2_off _ _ (by decide), d2_off _ _ (by decide)]
  · refine (vM_keep ?_).trans (g5.1 z)
    rw [d2_off _ _ (by decide), d2_off _ _ (by decide), d2_off _ _ (by decide)]
  · refine (vM_keep ?_).trans (g5.2 z)
    rw [d2_off _ _ (by decide), d2_off _ _ (by decide), d2_off _ _ (by decide)]
  · rw [d2_off _ _ (by decide), d2_off _ _ (by decide), d2_off _ _ (by decide)]
    exact g6
  · rw [d2_off _ _ (by decide), d2_off _ _ (by decide), d2_off _ _ (by decide)]
    exact g7
  · rw [d2_off _ _ (by decide)]
    by_cases e : i = tl
    · rw [e, d2_eq, upd_eq]
    · rw [d2_ne _ _ (Or.inr e), d2_off _ _ (by decide), upd_ne _ _ e]
      exact g9 i (by omega)
  · rw [d2_ne _ _ (Or.inr (by decide)), d2_off _ _ (by decide), d2_eq]
set_option maxRecDepth 100000 in
set_option maxHeartbeats 4000000 in
theorem M_clearBuffer {d : Nat → Nat → Int32} {r : Nat → Nat → Option Nat} {J : Nat → Nat → Int64} {V : Nat → Int32} {n : Nat} {H S : Nat → Nat → Int32} {t : Nat → Bool} {T : Nat → Int32} {tl : Nat} (h : RM d V n H S t T tl) (iv : IV V n H S t T tl)  : ∃ d1, OP kX7_clearBuffer yX7_clearBuffer 0 [.ref 65] d r J (some (.int (nI tl))) d1 r J ∧ RM d1 V n H S t T 0 ∧ d1 65 7 = nI 0 ∧ fc d d1 := by
  obtain ⟨okP, okM, okT9, okC, okW, okD⟩ := id iv.1
  have hV : mV d = V := h.2.1
  have hm8 := okM.2
  obtain ⟨g1, g2, g3, g4, g5, ⟨g6, g7⟩, g8, g9⟩ := id h
  refine ⟨d2 (d2 d 65 7 (nI 0)) 65 6 (nI 0), op_of pl_X7_clearBuffer (Nat.le_of_ble_eq_true rfl) ?_, ⟨g1, ?_, ?_, fun i hi => ?_, ⟨fun z => ?_, fun z => ?_⟩, ⟨?_, ?_⟩, d2_eq _ _ _ _, fun i hi => absurd hi (by omega)⟩, ?_, fc_d2 (fc_d2 (fc_refl d) (by decide)) (by decide)⟩
  ·
    refine sw_aload_n (i := 0) dX7_clearBuffer_0 rfl rfl ?_
    refine sw_ic 0 dX7_clearBuffer_1 ?_
    refine sx_putI fp_X7_35 (by decide) kf_65_7 dX7_clearBuffer_2 ?_
    refine sw_aload_n (i := 0) dX7_clearBuffer_5 rfl rfl ?_
    refine sx_getIE (nI tl) ((d2_ne _ _ (Or.inr (by decide))).trans g8) f_X7_125 (by decide) kf_65_6 dX7_clearBuffer_6 ?_
    refine sw_istore_n (i := 1) dX7_clearBuffer_9 rfl (Nat.le_of_ble_eq_true rfl) rfl ?_
    refine sw_lo (lo2 := [some (.ref 65), some (.int _)]) rfl ?_
    refine sw_aload_n (i := 0) dX7_clearBuffer_10 rfl rfl ?_
    refine sw_ins (pc2 := 11) rfl rfl ?_
    refine sw_ic 0 dX7_clearBuffer_11 ?_
    refine sx_putI fp_X7_125 (by decide) kf_65_6 dX7_clearBuffer_12 ?_
    refine sw_iload_n (i := 1) dX7_clearBuffer_15 rfl rfl ?_
    exact sw_ireturn rfl dX7_clearBuffer_16
  · refine (mV_keep ?_).trans g2
    rw [d2_off _ _ (by decide), d2_off _ _ (by decide)]
  · rw [d2_ne _ _ (Or.inr (by decide)), d2_ne _ _ (Or.inr (by decide))]
    exact g3
  · refine (vM_keep ?_).trans (g4 i hi)
    rw [d2_off _ _ (by decide), d2_off _ _ (by decide)]
  · refine (vM_keep ?_).trans (g5.1 z)
    rw [d2_off _ _ (by decide), d2_off _ _ (by decide)]
  · refine (vM_keep ?_).trans (g5.2 z)
    rw [d2_off _ _ (by decide), d2_off _ _ (by decide)]
  · rw [d2_off _ _ (by decide), d2_off _ _ (by decide)]
    exact g6
  · rw [d2_off _ _ (by decide), d2_off _ _ (by decide)]
    exact g7
  · rw [d2_ne _ _ (Or.inr (by decide)), d2_eq]
set_option maxRecDepth 100000 in
set_option maxHeartbeats 4000000 in
theorem M_firstError {d : Nat → Nat → Int32} {r : Nat → Nat → Option Nat} {J : Nat → Nat → Int64} {V : Nat → Int32} {n : Nat} {H S : Nat → Nat → Int32} {t : Nat → Bool} {T : Nat → Int32} {tl : Nat} (h : RM d V n H S t T tl) (iv : IV V n H S t T tl)  : ∃ d1, OP kX7_firstError yX7_firstError 8 [.ref 65] d r J (some (.int (nI (erG T tl tl 0)))) d1 r J ∧ RM d1 V n H S t T tl ∧ d1 65 7 = nI 0 ∧ fc d d1 := by
  obtain ⟨okP, okM, okT9, okC, okW, okD⟩ := id iv.1
  have hV : mV d = V := h.2.1
  have hm8 := okM.2
  have hok := iv.2.2.2
  have hL : d 65 6 = nI tl := h.2.2.2.2.2.2.1
  have hT := h.2.2.2.2.2.2.2
  have h0 := RM_th (x := nI 0) h
  obtain ⟨d1, e, q1, a1, a2, a3, a4, a5⟩ := A0_X7_readText (d := d2 d 65 7 (nI 0)) (r := r) (J := J) hok h0.2.2.2.2.2.2.2 h0.2.2.2.2.2.2.1
  obtain ⟨r1, r2, r3⟩ := RM_rft h0 (a3.trans h0.2.1) a2
  have h60 := hok.1
  refine ⟨d1, op_of pl_X7_firstError (Nat.le_of_ble_eq_true rfl) ?_, r1, r2.trans (d2_eq _ _ _ _), fc_tr (fc_d2 (fc_refl d) (by decide)) r3⟩
  rcases a5 with ⟨rfl, a5⟩ | ⟨rfl, a5⟩
  · rw [erG_q (q := tl) (by rw [a5]; decide) tl 0 (Nat.zero_le _) (by omega) (Or.inl (by omega))]
    refine sw_aload_n (i := 0) dX7_firstError_0 rfl rfl ?_
    refine sw_ic 0 dX7_firstError_1 ?_
    refine sx_putI fp_X7_35 (by decide) kf_65_7 dX7_firstError_2 ?_
    refine sw_aload_n (i := 0) dX7_firstError_5 rfl rfl ?_
    refine sw_ic 0 dX7_firstError_6 ?_
    refine px_Vx mv_X7_160 a1 rfl rfl (Nat.le_of_ble_eq_true rfl) (Nat.le_of_ble_eq_true rfl) ko_65 (Nat.le_of_ble_eq_true rfl) dX7_firstError_7 ?_
    refine sw_if_eq (tgt := 20) dX7_firstError_10 rfl (fun h9 => absurd h9 (by decide)) (fun _ => ?_)
    refine sw_ins (pc2 := 13) rfl rfl ?_
    refine sw_aload_n (i := 0) dX7_firstError_13 rfl rfl ?_
    refine sx_getIE (nI tl) a4.2.2.1 f_X7_125 (by decide) kf_65_6 dX7_firstError_14 ?_
    refine sw_goto (tgt := 24) dX7_firstError_17 rfl ?_
    exact sw_ireturn rfl dX7_firstError_24
  · have hq1 := a5.1
    rw [erG_q (q := q1) a5.2.1 tl 0 (Nat.zero_le _) (by omega) (by
      by_cases c : q1 = tl
      · exact Or.inl (by omega)
      · exact Or.inr (a5.2.2.1 (by omega)))]
    refine sw_aload_n (i := 0) dX7_firstError_0 rfl rfl ?_
    refine sw_ic 0 dX7_firstError_1 ?_
    refine sx_putI fp_X7_35 (by decide) kf_65_7 dX7_firstError_2 ?_
    refine sw_aload_n (i := 0) dX7_firstError_5 rfl rfl ?_
    refine sw_ic 0 dX7_firstError_6 ?_
    refine px_Vx mv_X7_160 a1 rfl rfl (Nat.le_of_ble_eq_true rfl) (Nat.le_of_ble_eq_true rfl) ko_65 (Nat.le_of_ble_eq_true rfl) dX7_firstError_7 ?_
    refine sw_if_eq (tgt := 20) dX7_firstError_10 rfl (fun _ => ?_) (fun h9 => absurd (by decide) h9)
    refine sw_ins (pc2 := 20) rfl rfl ?_
    refine sw_aload_n (i := 0) dX7_firstError_20 rfl rfl ?_
    refine sx_getIE (nI q1) a4.2.2.2.1 f_X7_128 (by decide) kf_65_10 dX7_firstError_21 ?_
    exact sw_ireturn rfl dX7_firstError_24
set_option maxRecDepth 100000 in
set_option maxHeartbeats 4000000 in
theorem N_run {d : Nat → Nat → Int32} {r : Nat → Nat → Option Nat} {J : Nat → Nat → Int64} {V : Nat → Int32} {n : Nat} {H S : Nat → Nat → Int32} {t : Nat → Bool} {T : Nat → Int32} {tl : Nat} (h : RM d V n H S t T tl) (iv : IV V n H S t T tl) (hE : ¬ rnS T tl tl = 11) : ∃ d1, OP kX7_run yX7_run 8 [.ref 65] d r J (some (.int (nI 0))) d1 r J ∧ RM d1 V n H S t T tl ∧ d1 65 7 = nI 1 ∧ fc d d1 := by
  obtain ⟨okP, okM, okT9, okC, okW, okD⟩ := id iv.1
  have hV : mV d = V := h.2.1
  have hm8 := okM.2
  have hok := iv.2.2.2
  have hL : d 65 6 = nI tl := h.2.2.2.2.2.2.1
  have hT := h.2.2.2.2.2.2.2
  obtain ⟨d1, e, q1, a1, a2, a3, a4, a5⟩ := A0_X7_readText (d := d) (r := r) (J := J) hok hT hL
  obtain ⟨r1, r2, r3⟩ := RM_rft h (a3.trans h.2.1) a2
  have he : e = 0 := by
    rcases a5 with ⟨_, a5⟩ | ⟨a5, _⟩
    · exact absurd a5 hE
    · exact a5
  subst he
  refine ⟨d2 d1 65 7 (nI 1), op_of pl_X7_run (Nat.le_of_ble_eq_true rfl) ?_, RM_th r1, d2_eq _ _ _ _, fc_d2 r3 (by decide)⟩
  refine sw_aload_n (i := 0) dX7_run_0 rfl rfl ?_
  refine sw_aload_n (i := 0) dX7_run_1 rfl rfl ?_
  refine sw_ic 0 dX7_run_2 ?_
  refine px_Vx mv_X7_160 a1 rfl rfl (Nat.le_of_ble_eq_true rfl) (Nat.le_of_ble_eq_true rfl) ko_65 (Nat.le_of_ble_eq_true rfl) dX7_run_3 ?_
  refine sw_if_eq (tgt := 13) dX7_run_6 rfl (fun _ => ?_) (fun h9 => absurd (by decide) h9)
  refine sw_ic 1 dX7_run_13 ?_
  refine px_Vx mv_X7_92 (A0_X7_holds (k := 1) (by decide) (by decide)) rfl rfl (Nat.le_of_ble_eq_true rfl) (Nat.le_of_ble_eq_true rfl) ko_65 (Nat.le_of_ble_eq_true rfl) dX7_run_14 ?_
  refine sw_ins (pc2 := 17) rfl rfl ?_
  refine sw_if_ne (tgt := 22) dX7_run_17 rfl (fun h9 => absurd (by decide) h9) (fun _ => ?_)
  refine sw_ic 0 dX7_run_20 ?_
  exact sw_ireturn rfl dX7_run_21
set_option maxRecDepth 100000 in
set_option maxHeartbeats 4000000 in
theorem M_run {d : Nat → Nat → Int32} {r : Nat → Nat → Option Nat} {J : Nat → Nat → Int64} {V : Nat → Int32} {n : Nat} {H S : Nat → Nat → Int32} {t : Nat → Bool} {T : Nat → Int32} {tl : Nat} (h : RM d V n H S t T tl) (iv : IV V n H S t T tl) (hE : rnS T tl tl = 11) : ∃ d1, OP kX7_run yX7_run 8 [.ref 65] d r J (some (.int (nI (rnG T tl (tl + 1) V 0 0).2))) d1 r J ∧ RM d1 (rnG T tl (tl + 1) V 0 0).1 (psN n) (psH H n V) S t T 0 ∧ d1 65 7 = nI 0 ∧ fc d d1 := by
  obtain ⟨okP, okM, okT9, okC, okW, okD⟩ := id iv.1
  have hV : mV d = V := h.2.1
  have hm8 := okM.2
  have hok := iv.2.2.2
  have hL : d 65 6 = nI tl := h.2.2.2.2.2.2.1
  have hT := h.2.2.2.2.2.2.2
  obtain ⟨d1, e, q1, a1, a2, a3, a4, a5⟩ := A0_X7_readText (d := d) (r := r) (J := J) hok hT hL
  obtain ⟨r1, r2, r3⟩ := RM_rft h (a3.trans h.2.1) a2
  have he : e = 1 := by
    rcases a5 with ⟨a5, _⟩ | ⟨_, a5⟩
    · exact a5
    · exact absurd hE a5.2.2.2
  subst he
  have h0 := RM_th (x := nI 0) r1
  obtain ⟨e1, s1, h1, k1, f1⟩ := M_save (r := r) (J := J) h0
  have k1 : e1 65 7 = nI 0 := k1.trans (d2_eq _ _ _ _)
  have f1 : fc d e1 := fc_tr (fc_d2 r3 (by decide)) f1
  have v1 : mV e1 = V := h1.2.1
  obtain ⟨x1, b1, b2, b3, b4⟩ := A1_X7_readText (d := e1) (r := r) (J := J) hok h1.2.2.2.2.2.2.2 h1.2.2.2.2.2.2.1 hE (by rw [v1]; exact iv.1)
  rw [v1] at b3 b4
  obtain ⟨r4, r5, r6⟩ := RM_rft h1 b3 b2
  obtain ⟨g1, g2, g3, g4, g5, ⟨g6, g7⟩, g8, g9⟩ := id r4
  refine ⟨d2 x1 65 6 (nI 0), op_of pl_X7_run (Nat.le_of_ble_eq_true rfl) ?_, ⟨g1, ?_, ?_, fun i hi => ?_, ⟨fun z => ?_, fun z => ?_⟩, ⟨?_, ?_⟩, d2_eq _ _ _ _, fun i hi => absurd hi (by omega)⟩, ?_, fc_d2 (fc_tr f1 r6) (by decide)⟩
  ·
    refine sw_aload_n (i := 0) dX7_run_0 rfl rfl ?_
    refine sw_aload_n (i := 0) dX7_run_1 rfl rfl ?_
    refine sw_ic 0 dX7_run_2 ?_
    refine px_Vx mv_X7_160 a1 rfl rfl (Nat.le_of_ble_eq_true rfl) (Nat.le_of_ble_eq_true rfl) ko_65 (Nat.le_of_ble_eq_true rfl) dX7_run_3 ?_
    refine sw_if_eq (tgt := 13) dX7_run_6 rfl (fun h9 => absurd h9 (by decide)) (fun _ => ?_)
    refine sw_ic 0 dX7_run_9 ?_
    refine sw_goto (tgt := 14) dX7_run_10 rfl ?_
    refine sw_ins (pc2 := 14) rfl rfl ?_
    refine px_Vx mv_X7_92 A1_X7_holds rfl rfl (Nat.le_of_ble_eq_true rfl) (Nat.le_of_ble_eq_true rfl) ko_65 (Nat.le_of_ble_eq_true rfl) dX7_run_14 ?_
    refine sw_if_ne (tgt := 22) dX7_run_17 rfl (fun _ => ?_) (fun h9 => absurd h9 (by decide))
    refine sw_aload_n (i := 0) dX7_run_22 rfl rfl ?_
    refine px_Vv mv_X7_95 s1 rfl rfl (Nat.le_of_ble_eq_true rfl) (Nat.le_of_ble_eq_true rfl) ko_65 (Nat.le_of_ble_eq_true rfl) dX7_run_23 ?_
    refine sw_aload_n (i := 0) dX7_run_26 rfl rfl ?_
    refine sw_ic 1 dX7_run_27 ?_
    refine px_Vx mv_X7_160 b1 rfl rfl (Nat.le_of_ble_eq_true rfl) (Nat.le_of_ble_eq_true rfl) ko_65 (Nat.le_of_ble_eq_true rfl) dX7_run_28 ?_
    refine sw_istore_n (i := 1) dX7_run_31 rfl (Nat.le_of_ble_eq_true rfl) rfl ?_
    refine sw_lo (lo2 := [some (.ref 65), some (.int _)]) rfl ?_
    refine sw_ins (pc2 := 32) rfl rfl ?_
    refine sw_aload_n (i := 0) dX7_run_32 rfl rfl ?_
    refine sw_ic 0 dX7_run_33 ?_
    refine sx_putI fp_X7_125 (by decide) kf_65_6 dX7_run_34 ?_
    refine sw_iload_n (i := 1) dX7_run_37 rfl rfl ?_
    refine sw_if_eq (tgt := 48) dX7_run_38 rfl (fun h9 => absurd h9 (by decide)) (fun _ => ?_)
    refine sw_aload_n (i := 0) dX7_run_41 rfl rfl ?_
    refine sx_getIE (nI (rnG T tl (tl + 1) V 0 0).2) ((d2_ne _ _ (Or.inr (by decide))).trans b4) f_X7_151 (by decide) kf_65_13 dX7_run_42 ?_
    refine sw_goto (tgt := 49) dX7_run_45 rfl ?_
    refine sw_ins (pc2 := 49) rfl rfl ?_
    exact sw_ireturn rfl dX7_run_49
  · refine (mV_keep ?_).trans g2
    rw [d2_off _ _ (by decide)]
  · rw [d2_ne _ _ (Or.inr (by decide))]
    exact g3
  · refine (vM_keep ?_).trans (g4 i hi)
    rw [d2_off _ _ (by decide)]
  · refine (vM_keep ?_).trans (g5.1 z)
    rw [d2_off _ _ (by decide)]
  · refine (vM_keep ?_).trans (g5.2 z)
    rw [d2_off _ _ (by decide)]
  · rw [d2_off _ _ (by decide)]
    exact g6
  · rw [d2_off _ _ (by decide)]
    exact g7
  · rw [d2_ne _ _ (Or.inr (by decide)), r5, k1]
theorem sl_bad {x : Int32} (hx : x < nI 0 ∨ ¬ x ≤ nI 1) : x < 0 ∨ ¬ x < nI 2 := by
  rcases hx with h | h
  · exact Or.inl h
  · refine Or.inr (fun q => h ?_)
    have q := Int32.lt_iff_toInt_lt.mp q
    rw [nI_toInt (by decide)] at q
    refine Int32.le_iff_toInt_le.mpr ?_
    rw [nI_toInt (by decide)]
    omega
set_option maxRecDepth 100000 in
set_option maxHeartbeats 4000000 in
theorem N_keep {d : Nat → Nat → Int32} {r : Nat → Nat → Option Nat} {J : Nat → Nat → Int64} {V : Nat → Int32} {n : Nat} {H S : Nat → Nat → Int32} {t : Nat → Bool} {T : Nat → Int32} {tl : Nat} (h : RM d V n H S t T tl) (iv : IV V n H S t T tl) {x : Int32} (hx : x < nI 0 ∨ ¬ x ≤ nI 1) : ∃ d1, OP kX7_keep yX7_keep 2 [.ref 65, .int x] d r J (some (.int (nI 0))) d1 r J ∧ RM d1 V n H S t T tl ∧ d1 65 7 = nI 1 ∧ fc d d1 := by
  obtain ⟨okP, okM, okT9, okC, okW, okD⟩ := id iv.1
  have hV : mV d = V := h.2.1
  have hm8 := okM.2
  refine ⟨d2 d 65 7 (nI 1), op_of pl_X7_keep (Nat.le_of_ble_eq_true rfl) ?_, RM_th h, d2_eq _ _ _ _, fc_d2 (fc_refl d) (by decide)⟩
  refine sw_aload_n (i := 0) dX7_keep_0 rfl rfl ?_
  refine sw_iload_n (i := 1) dX7_keep_1 rfl rfl ?_
  refine px_Sx ms_X7_164 (A0_X7_isSlot (sl_bad hx)) rfl rfl (Nat.le_of_ble_eq_true rfl) (Nat.le_of_ble_eq_true rfl) (Nat.le_of_ble_eq_true rfl) dX7_keep_2 ?_
  refine sw_if_eq (tgt := 12) dX7_keep_5 rfl (fun _ => ?_) (fun h9 => absurd (by decide) h9)
  refine sw_ic 1 dX7_keep_12 ?_
  refine px_Vx mv_X7_92 (A0_X7_holds (k := 1) (by decide) (by decide)) rfl rfl (Nat.le_of_ble_eq_true rfl) (Nat.le_of_ble_eq_true rfl) ko_65 (Nat.le_of_ble_eq_true rfl) dX7_keep_13 ?_
  refine sw_if_ne (tgt := 21) dX7_keep_16 rfl (fun h9 => absurd (by decide) h9) (fun _ => ?_)
  refine sw_ins (pc2 := 19) rfl rfl ?_
  refine sw_ic 0 dX7_keep_19 ?_
  exact sw_ireturn rfl dX7_keep_20
set_option maxRecDepth 100000 in
set_option maxHeartbeats 4000000 in
theorem M0_keep {d : Nat → Nat → Int32} {r : Nat → Nat → Option Nat} {J : Nat → Nat → Int64} {V : Nat → Int32} {n : Nat} {H S : Nat → Nat → Int32} {t : Nat → Bool} {T : Nat → Int32} {tl : Nat} (h : RM d V n H S t T tl) (iv : IV V n H S t T tl)  : ∃ d1, OP kX7_keep yX7_keep 2 [.ref 65, .int (nI 0)] d r J (some (.int (V 0))) d1 r J ∧ RM d1 V n H (sS S 0 V) (sT t 0) T tl ∧ d1 65 7 = nI 0 ∧ fc d d1 := by
  obtain ⟨okP, okM, okT9, okC, okW, okD⟩ := id iv.1
  have hV : mV d = V := h.2.1
  have hm8 := okM.2
  obtain ⟨g1, g2, g3, g4, g5, ⟨g6, g7⟩, g8, g9⟩ := id h
  obtain ⟨w1, hw1⟩ : ∃ w, w = d2 d 65 7 (nI 0) := ⟨_, rfl⟩
  have hcp := A_X7_copy (d := w1) (r := r) (J := J) (cf := 66) (ct := 68) (f := 0) (t := 0) (by decide) rfl rfl (by decide) (by decide)
  have q66 : w1 66 = d 66 := by rw [hw1]; exact d2_off _ _ (by decide)
  have q68 : w1 68 = d 68 := by rw [hw1]; exact d2_off _ _ (by decide)
  refine ⟨d2 (dup w1 68 (cpG (w1 66) (w1 68) 0 0 83)) 69 0 (nI 1), op_of pl_X7_keep (Nat.le_of_ble_eq_true rfl) ?_, ⟨g1, ?_, ?_, fun i hi => ?_, ⟨fun z => ?_, fun z => ?_⟩, ⟨?_, ?_⟩, ?_, fun i hi => ?_⟩, ?_, ?_⟩
  ·
    refine sw_aload_n (i := 0) dX7_keep_0 rfl rfl ?_
    refine sw_iload_n (i := 1) dX7_keep_1 rfl rfl ?_
    refine px_Sx ms_X7_164 (A1_X7_isSlot (a := 0) (by decide)) rfl rfl (Nat.le_of_ble_eq_true rfl) (Nat.le_of_ble_eq_true rfl) (Nat.le_of_ble_eq_true rfl) dX7_keep_2 ?_
    refine sw_if_eq (tgt := 12) dX7_keep_5 rfl (fun h9 => absurd h9 (by decide)) (fun _ => ?_)
    refine sw_ic 0 dX7_keep_8 ?_
    refine sw_goto (tgt := 13) dX7_keep_9 rfl ?_
    refine px_Vx mv_X7_92 A1_X7_holds rfl rfl (Nat.le_of_ble_eq_true rfl) (Nat.le_of_ble_eq_true rfl) ko_65 (Nat.le_of_ble_eq_true rfl) dX7_keep_13 ?_
    refine sw_ins (pc2 := 16) rfl rfl ?_
    refine sw_if_ne (tgt := 21) dX7_keep_16 rfl (fun _ => ?_) (fun h9 => absurd h9 (by decide))
    rw [← hw1]
    refine sw_aload_n (i := 0) dX7_keep_21 rfl rfl ?_
    refine sx_getR (q := 66) f_X7_7 (by decide) kr_65_0 dX7_keep_22 ?_
    refine sw_ic 0 dX7_keep_25 ?_
    refine sw_aload_n (i := 0) dX7_keep_26 rfl rfl ?_
    refine sx_getR (q := 68) f_X7_16 (by decide) kr_65_3 dX7_keep_27 ?_
    refine sw_bi 83 dX7_keep_30 (by decide +kernel) ?_
    refine sw_iload_n (i := 1) dX7_keep_32 rfl rfl ?_
    refine sw_ins (pc2 := 33) rfl rfl ?_
    refine sw_imul dX7_keep_33 ?_
    refine sw_topE (v := nI 0) (by decide) ?_
    refine px_Sv ms_X7_46 hcp rfl rfl (Nat.le_of_ble_eq_true rfl) (Nat.le_of_ble_eq_true rfl) (Nat.le_of_ble_eq_true rfl) dX7_keep_34 ?_
    refine sw_aload_n (i := 0) dX7_keep_37 rfl rfl ?_
    refine sx_getR (q := 69) f_X7_19 (by decide) kr_65_4 dX7_keep_38 ?_
    refine sw_iload_n (i := 1) dX7_keep_41 rfl rfl ?_
    refine sw_ic 1 dX7_keep_42 ?_
    refine sx_zast (0) rfl rfl (by omega) rfl dX7_keep_43 ?_
    refine sw_aload_n (i := 0) dX7_keep_44 rfl rfl ?_
    refine sw_ins (pc2 := 45) rfl rfl ?_
    refine sx_getR (q := 66) f_X7_7 (by decide) kr_65_0 dX7_keep_45 ?_
    refine sw_ic 0 dX7_keep_48 ?_
    refine sx_ialdE (0) (V 0) ((mV_in _ (by decide) rfl).trans (by rw [mV_keep (d2_off _ _ (by decide)), mV_keep (dup_ne _ _ (by decide)), mV_keep q66, hV])) rfl rfl (by omega) dX7_keep_49 ?_
    exact sw_ireturn rfl dX7_keep_50
  · refine (mV_keep ?_).trans g2
    rw [d2_off _ _ (by decide), dup_ne _ _ (by decide), hw1, d2_off _ _ (by decide)]
  · rw [d2_off _ _ (by decide), dup_ne _ _ (by decide), hw1, d2_ne _ _ (Or.inr (by decide))]
    exact g3
  · refine (vM_keep ?_).trans (g4 i hi)
    rw [d2_off _ _ (by decide), dup_ne _ _ (by decide), hw1, d2_off _ _ (by decide)]
  · show vM _ 68 0 = V
    rw [← g2]
    refine vM_same (d := d) (c := 66) (o := 0) (fun j hj => ?_)
    rw [d2_off _ _ (by decide), dup_eq, cpG_in hj rfl, q66]
  · refine Eq.trans (vM_same (d := d) (c := 68) (o := 83) (fun j hj => ?_)) (g5.2 z)
    rw [d2_off _ _ (by decide), dup_eq, cpG_out (by omega), q68]
  · rw [d2_eq]
    rfl
  · rw [d2_ne _ _ (Or.inr (by decide)), dup_ne _ _ (by decide), hw1, d2_off _ _ (by decide)]
    exact g7
  · rw [d2_off _ _ (by decide), dup_ne _ _ (by decide), hw1, d2_ne _ _ (Or.inr (by decide))]
    exact g8
  · rw [d2_off _ _ (by decide), dup_ne _ _ (by decide), hw1, d2_off _ _ (by decide)]
    exact g9 i hi
  · rw [d2_off _ _ (by decide), dup_ne _ _ (by decide), hw1, d2_eq]
  · rw [hw1]
    exact fc_d2 (fc_dup (fc_d2 (fc_refl d) (by decide)) (by decide)) (by decide)
set_option maxRecDepth 100000 in
set_option maxHeartbeats 4000000 in
theorem M1_keep {d : Nat → Nat → Int32} {r : Nat → Nat → Option Nat} {J : Nat → Nat → Int64} {V : Nat → Int32} {n : Nat} {H S : Nat → Nat → Int32} {t : Nat → Bool} {T : Nat → Int32} {tl : Nat} (h : RM d V n H S t T tl) (iv : IV V n H S t T tl)  : ∃ d1, OP kX7_keep yX7_keep 2 [.ref 65, .int (nI 1)] d r J (some (.int (V 0))) d1 r J ∧ RM d1 V n H (sS S 1 V) (sT t 1) T tl ∧ d1 65 7 = nI 0 ∧ fc d d1 := by
  obtain ⟨okP, okM, okT9, okC, okW, okD⟩ := id iv.1
  have hV : mV d = V := h.2.1
  have hm8 := okM.2
  obtain ⟨g1, g2, g3, g4, g5, ⟨g6, g7⟩, g8, g9⟩ := id h
  obtain ⟨w1, hw1⟩ : ∃ w, w = d2 d 65 7 (nI 0) := ⟨_, rfl⟩
  have hcp := A_X7_copy (d := w1) (r := r) (J := J) (cf := 66) (ct := 68) (f := 0) (t := 83) (by decide) rfl rfl (by decide) (by decide)
  have q66 : w1 66 = d 66 := by rw [hw1]; exact d2_off _ _ (by decide)
  have q68 : w1 68 = d 68 := by rw [hw1]; exact d2_off _ _ (by decide)
  refine ⟨d2 (dup w1 68 (cpG (w1 66) (w1 68) 0 83 83)) 69 1 (nI 1), op_of pl_X7_keep (Nat.le_of_ble_eq_true rfl) ?_, ⟨g1, ?_, ?_, fun i hi => ?_, ⟨fun z => ?_, fun z => ?_⟩, ⟨?_, ?_⟩, ?_, fun i hi => ?_⟩, ?_, ?_⟩
  ·
    refine sw_aload_n (i := 0) dX7_keep_0 rfl rfl ?_
    refine sw_iload_n (i := 1) dX7_keep_1 rfl rfl ?_
    refine px_Sx ms_X7_164 (A1_X7_isSlot (a := 1) (by decide)) rfl rfl (Nat.le_of_ble_eq_true rfl) (Nat.le_of_ble_eq_true rfl) (Nat.le_of_ble_eq_true rfl) dX7_keep_2 ?_
    refine sw_if_eq (tgt := 12) dX7_keep_5 rfl (fun h9 => absurd h9 (by decide)) (fun _ => ?_)
    refine sw_ic 0 dX7_keep_8 ?_
    refine sw_goto (tgt := 13) dX7_keep_9 rfl ?_
    refine px_Vx mv_X7_92 A1_X7_holds rfl rfl (Nat.le_of_ble_eq_true rfl) (Nat.le_of_ble_eq_true rfl) ko_65 (Nat.le_of_ble_eq_true rfl) dX7_keep_13 ?_
    refine sw_ins (pc2 := 16) rfl rfl ?_
    refine sw_if_ne (tgt := 21) dX7_keep_16 rfl (fun _ => ?_) (fun h9 => absurd h9 (by decide))
    rw [← hw1]
    refine sw_aload_n (i := 0) dX7_keep_21 rfl rfl ?_
    refine sx_getR (q := 66) f_X7_7 (by decide) kr_65_0 dX7_keep_22 ?_
    refine sw_ic 0 dX7_keep_25 ?_
    refine sw_aload_n (i := 0) dX7_keep_26 rfl rfl ?_
    refine sx_getR (q := 68) f_X7_16 (by decide) kr_65_3 dX7_keep_27 ?_
    refine sw_bi 83 dX7_keep_30 (by decide +kernel) ?_
    refine sw_iload_n (i := 1) dX7_keep_32 rfl rfl ?_
    refine sw_ins (pc2 := 33) rfl rfl ?_
    refine sw_imul dX7_keep_33 ?_
    refine sw_topE (v := nI 83) (by decide) ?_
    refine px_Sv ms_X7_46 hcp rfl rfl (Nat.le_of_ble_eq_true rfl) (Nat.le_of_ble_eq_true rfl) (Nat.le_of_ble_eq_true rfl) dX7_keep_34 ?_
    refine sw_aload_n (i := 0) dX7_keep_37 rfl rfl ?_
    refine sx_getR (q := 69) f_X7_19 (by decide) kr_65_4 dX7_keep_38 ?_
    refine sw_iload_n (i := 1) dX7_keep_41 rfl rfl ?_
    refine sw_ic 1 dX7_keep_42 ?_
    refine sx_zast (1) rfl rfl (by omega) rfl dX7_keep_43 ?_
    refine sw_aload_n (i := 0) dX7_keep_44 rfl rfl ?_
    refine sw_ins (pc2 := 45) rfl rfl ?_
    refine sx_getR (q := 66) f_X7_7 (by decide) kr_65_0 dX7_keep_45 ?_
    refine sw_ic 0 dX7_keep_48 ?_
    refine sx_ialdE (0) (V 0) ((mV_in _ (by decide) rfl).trans (by rw [mV_keep (d2_off _ _ (by decide)), mV_keep (dup_ne _ _ (by decide)), mV_keep q66, hV])) rfl rfl (by omega) dX7_keep_49 ?_
    exact sw_ireturn rfl dX7_keep_50
  · refine (mV_keep ?_).trans g2
    rw [d2_off _ _ (by decide), dup_ne _ _ (by decide), hw1, d2_off _ _ (by decide)]
  · rw [d2_off _ _ (by decide), dup_ne _ _ (by decide), hw1, d2_ne _ _ (Or.inr (by decide))]
    exact g3
  · refine (vM_keep ?_).trans (g4 i hi)
    rw [d2_off _ _ (by decide), dup_ne _ _ (by decide), hw1, d2_off _ _ (by decide)]
  · refine Eq.trans (vM_same (d := d) (c := 68) (o := 0) (fun j hj => ?_)) (g5.1 z)
    rw [d2_off _ _ (by decide), dup_eq, cpG_out (by omega), q68]
  · show vM _ 68 83 = V
    rw [← g2]
    refine vM_same (d := d) (c := 66) (o := 0) (fun j hj => ?_)
    rw [d2_off _ _ (by decide), dup_eq, cpG_in hj rfl, q66]
  · rw [d2_ne _ _ (Or.inr (by decide)), dup_ne _ _ (by decide), hw1, d2_off _ _ (by decide)]
    exact g6
  · rw [d2_eq]
    rfl
  · rw [d2_off _ _ (by decide), dup_ne _ _ (by decide), hw1, d2_ne _ _ (Or.inr (by decide))]
    exact g8
  · rw [d2_off _ _ (by decide), dup_ne _ _ (by decide), hw1, d2_off _ _ (by decide)]
    exact g9 i hi
  · rw [d2_off _ _ (by decide), dup_ne _ _ (by decide), hw1, d2_eq]
  · rw [hw1]
    exact fc_d2 (fc_dup (fc_d2 (fc_refl d) (by decide)) (by decide)) (by decide)
set_option maxRecDepth 100000 in
set_option maxHeartbeats 4000000 in
theorem N_goBack {d : Nat → Nat → Int32} {r : Nat → Nat → Option Nat} {J : Nat → Nat → Int64} {V : Nat → Int32} {n : Nat} {H S : Nat → Nat → Int32} {t : Nat → Bool} {T : Nat → Int32} {tl : Nat} (h : RM d V n H S t T tl) (iv : IV V n H S t T tl) {x : Int32} (hx : x < nI 0 ∨ ¬ x ≤ nI 1) : ∃ d1, OP kX7_goBack yX7_goBack 2 [.ref 65, .int x] d r J (some (.int (nI 0))) d1 r J ∧ RM d1 V n H S t T tl ∧ d1 65 7 = nI 1 ∧ fc d d1 := by
  obtain ⟨okP, okM, okT9, okC, okW, okD⟩ := id iv.1
  have hV : mV d = V := h.2.1
  have hm8 := okM.2
  refine ⟨d2 d 65 7 (nI 1), op_of pl_X7_goBack (Nat.le_of_ble_eq_true rfl) ?_, RM_th h, d2_eq _ _ _ _, fc_d2 (fc_refl d) (by decide)⟩
  refine sw_aload_n (i := 0) dX7_goBack_0 rfl rfl ?_
  refine sw_iload_n (i := 1) dX7_goBack_1 rfl rfl ?_
  refine px_Sx ms_X7_164 (A0_X7_isSlot (sl_bad hx)) rfl rfl (Nat.le_of_ble_eq_true rfl) (Nat.le_of_ble_eq_true rfl) (Nat.le_of_ble_eq_true rfl) dX7_goBack_2 ?_
  refine sw_if_ne (tgt := 12) dX7_goBack_5 rfl (fun h9 => absurd (by decide) h9) (fun _ => ?_)
  refine sw_ic 1 dX7_goBack_8 ?_
  refine sw_goto (tgt := 26) dX7_goBack_9 rfl ?_
  refine px_Vx mv_X7_92 (A0_X7_holds (k := 1) (by decide) (by decide)) rfl rfl (Nat.le_of_ble_eq_true rfl) (Nat.le_of_ble_eq_true rfl) ko_65 (Nat.le_of_ble_eq_true rfl) dX7_goBack_26 ?_
  refine sw_ins (pc2 := 29) rfl rfl ?_
  refine sw_if_ne (tgt := 34) dX7_goBack_29 rfl (fun h9 => absurd (by decide) h9) (fun _ => ?_)
  refine sw_ic 0 dX7_goBack_32 ?_
  exact sw_ireturn rfl dX7_goBack_33
set_option maxRecDepth 100000 in
set_option maxHeartbeats 4000000 in
theorem N0_goBack {d : Nat → Nat → Int32} {r : Nat → Nat → Option Nat} {J : Nat → Nat → Int64} {V : Nat → Int32} {n : Nat} {H S : Nat → Nat → Int32} {t : Nat → Bool} {T : Nat → Int32} {tl : Nat} (h : RM d V n H S t T tl) (iv : IV V n H S t T tl) (ht : t 0 = false) : ∃ d1, OP kX7_goBack yX7_goBack 2 [.ref 65, .int (nI 0)] d r J (some (.int (nI 0))) d1 r J ∧ RM d1 V n H S t T tl ∧ d1 65 7 = nI 2 ∧ fc d d1 := by
  obtain ⟨okP, okM, okT9, okC, okW, okD⟩ := id iv.1
  have hV : mV d = V := h.2.1
  have hm8 := okM.2
  have hb : d 69 0 = nI 0 := by rw [h.2.2.2.2.2.1.1, ht]; rfl
  refine ⟨d2 d 65 7 (nI 2), op_of pl_X7_goBack (Nat.le_of_ble_eq_true rfl) ?_, RM_th h, d2_eq _ _ _ _, fc_d2 (fc_refl d) (by decide)⟩
  refine sw_aload_n (i := 0) dX7_goBack_0 rfl rfl ?_
  refine sw_iload_n (i := 1) dX7_goBack_1 rfl rfl ?_
  refine px_Sx ms_X7_164 (A1_X7_isSlot (a := 0) (by decide)) rfl rfl (Nat.le_of_ble_eq_true rfl) (Nat.le_of_ble_eq_true rfl) (Nat.le_of_ble_eq_true rfl) dX7_goBack_2 ?_
  refine sw_if_ne (tgt := 12) dX7_goBack_5 rfl (fun _ => ?_) (fun h9 => absurd h9 (by decide))
  refine sw_aload_n (i := 0) dX7_goBack_12 rfl rfl ?_
  refine sx_getR (q := 69) f_X7_19 (by decide) kr_65_4 dX7_goBack_13 ?_
  refine sw_iload_n (i := 1) dX7_goBack_16 rfl rfl ?_
  refine sw_ins (pc2 := 17) rfl rfl ?_
  refine sx_zaldE (0) (nI 0) hb rfl rfl (by omega) dX7_goBack_17 ?_
  refine sw_if_eq (tgt := 25) dX7_goBack_18 rfl (fun _ => ?_) (fun h9 => absurd (by decide) h9)
  refine sw_ic 2 dX7_goBack_25 ?_
  refine px_Vx mv_X7_92 (A0_X7_holds (k := 2) (by decide) (by decide)) rfl rfl (Nat.le_of_ble_eq_true rfl) (Nat.le_of_ble_eq_true rfl) ko_65 (Nat.le_of_ble_eq_true rfl) dX7_goBack_26 ?_
  refine sw_if_ne (tgt := 34) dX7_goBack_29 rfl (fun h9 => absurd (by decide) h9) (fun _ => ?_)
  refine sw_ic 0 dX7_goBack_32 ?_
  exact sw_ireturn rfl dX7_goBack_33
set_option maxRecDepth 100000 in
set_option maxHeartbeats 4000000 in
theorem M0_goBack {d : Nat → Nat → Int32} {r : Nat → Nat → Option Nat} {J : Nat → Nat → Int64} {V : Nat → Int32} {n : Nat} {H S : Nat → Nat → Int32} {t : Nat → Bool} {T : Nat → Int32} {tl : Nat} (h : RM d V n H S t T tl) (iv : IV V n H S t T tl) (ht : t 0 = true) : ∃ d1, OP kX7_goBack yX7_goBack 2 [.ref 65, .int (nI 0)] d r J (some (.int (S 0 0))) d1 r J ∧ RM d1 (S 0) (psN n) (psH H n V) S t T tl ∧ d1 65 7 = nI 0 ∧ fc d d1 := by
  obtain ⟨okP, okM, okT9, okC, okW, okD⟩ := id iv.1
  have hV : mV d = V := h.2.1
  have hm8 := okM.2
  have hb : d 69 0 = nI 1 := by rw [h.2.2.2.2.2.1.1, ht]; rfl
  have h0 := RM_th (x := nI 0) h
  obtain ⟨e1, s1, h1, k1, f1⟩ := M_save (r := r) (J := J) h0
  have k1 : e1 65 7 = nI 0 := k1.trans (d2_eq _ _ _ _)
  have f1 : fc d e1 := fc_tr (fc_d2 (fc_refl d) (by decide)) f1
  have v1 : mV e1 = V := h1.2.1
  have hcp := A_X7_copy (d := e1) (r := r) (J := J) (cf := 68) (ct := 66) (f := 0) (t := 0) (by decide) rfl rfl (by decide) (by decide)
  have hn : mV (dup e1 66 (cpG (e1 68) (e1 66) 0 0 83)) = S 0 := by
    refine Eq.trans ?_ (h1.2.2.2.2.1.1 ht)
    refine vM_same (d := e1) (c := 68) (o := 0) (fun j hj => ?_)
    rw [dup_eq, cpG_in hj rfl]
  obtain ⟨r1, r2, r3⟩ := RM_chg h1 hn (fun c q1 q2 q3 => dup_ne _ _ q1)
  refine ⟨_, op_of pl_X7_goBack (Nat.le_of_ble_eq_true rfl) ?_, r1, r2.trans k1, fc_tr f1 r3⟩
  refine sw_aload_n (i := 0) dX7_goBack_0 rfl rfl ?_
  refine sw_iload_n (i := 1) dX7_goBack_1 rfl rfl ?_
  refine px_Sx ms_X7_164 (A1_X7_isSlot (a := 0) (by decide)) rfl rfl (Nat.le_of_ble_eq_true rfl) (Nat.le_of_ble_eq_true rfl) (Nat.le_of_ble_eq_true rfl) dX7_goBack_2 ?_
  refine sw_if_ne (tgt := 12) dX7_goBack_5 rfl (fun _ => ?_) (fun h9 => absurd h9 (by decide))
  refine sw_aload_n (i := 0) dX7_goBack_12 rfl rfl ?_
  refine sx_getR (q := 69) f_X7_19 (by decide) kr_65_4 dX7_goBack_13 ?_
  refine sw_iload_n (i := 1) dX7_goBack_16 rfl rfl ?_
  refine sw_ins (pc2 := 17) rfl rfl ?_
  refine sx_zaldE (0) (nI 1) hb rfl rfl (by omega) dX7_goBack_17 ?_
  refine sw_if_eq (tgt := 25) dX7_goBack_18 rfl (fun h9 => absurd h9 (by decide)) (fun _ => ?_)
  refine sw_ic 0 dX7_goBack_21 ?_
  refine sw_goto (tgt := 26) dX7_goBack_22 rfl ?_
  refine px_Vx mv_X7_92 A1_X7_holds rfl rfl (Nat.le_of_ble_eq_true rfl) (Nat.le_of_ble_eq_true rfl) ko_65 (Nat.le_of_ble_eq_true rfl) dX7_goBack_26 ?_
  refine sw_if_ne (tgt := 34) dX7_goBack_29 rfl (fun _ => ?_) (fun h9 => absurd h9 (by decide))
  refine sw_aload_n (i := 0) dX7_goBack_34 rfl rfl ?_
  refine px_Vv mv_X7_95 s1 rfl rfl (Nat.le_of_ble_eq_true rfl) (Nat.le_of_ble_eq_true rfl) ko_65 (Nat.le_of_ble_eq_true rfl) dX7_goBack_35 ?_
  refine sw_ins (pc2 := 38) rfl rfl ?_
  refine sw_aload_n (i := 0) dX7_goBack_38 rfl rfl ?_
  refine sx_getR (q := 68) f_X7_16 (by decide) kr_65_3 dX7_goBack_39 ?_
  refine sw_bi 83 dX7_goBack_42 (by decide +kernel) ?_
  refine sw_iload_n (i := 1) dX7_goBack_44 rfl rfl ?_
  refine sw_imul dX7_goBack_45 ?_
  refine sw_topE (v := nI 0) (by decide) ?_
  refine sw_aload_n (i := 0) dX7_goBack_46 rfl rfl ?_
  refine sx_getR (q := 66) f_X7_7 (by decide) kr_65_0 dX7_goBack_47 ?_
  refine sw_ic 0 dX7_goBack_50 ?_
  refine sw_ins (pc2 := 51) rfl rfl ?_
  refine px_Sv ms_X7_46 hcp rfl rfl (Nat.le_of_ble_eq_true rfl) (Nat.le_of_ble_eq_true rfl) (Nat.le_of_ble_eq_true rfl) dX7_goBack_51 ?_
  refine sw_aload_n (i := 0) dX7_goBack_54 rfl rfl ?_
  refine sx_getR (q := 66) f_X7_7 (by decide) kr_65_0 dX7_goBack_55 ?_
  refine sw_ic 0 dX7_goBack_58 ?_
  refine sx_ialdE (0) (S 0 0) ((mV_in _ (by decide) rfl).trans (congrFun hn 0)) rfl rfl (by omega) dX7_goBack_59 ?_
  exact sw_ireturn rfl dX7_goBack_60
set_option maxRecDepth 100000 in
set_option maxHeartbeats 4000000 in
theorem N1_goBack {d : Nat → Nat → Int32} {r : Nat → Nat → Option Nat} {J : Nat → Nat → Int64} {V : Nat → Int32} {n : Nat} {H S : Nat → Nat → Int32} {t : Nat → Bool} {T : Nat → Int32} {tl : Nat} (h : RM d V n H S t T tl) (iv : IV V n H S t T tl) (ht : t 1 = false) : ∃ d1, OP kX7_goBack yX7_goBack 2 [.ref 65, .int (nI 1)] d r J (some (.int (nI 0))) d1 r J ∧ RM d1 V n H S t T tl ∧ d1 65 7 = nI 2 ∧ fc d d1 := by
  obtain ⟨okP, okM, okT9, okC, okW, okD⟩ := id iv.1
  have hV : mV d = V := h.2.1
  have hm8 := okM.2
  have hb : d 69 1 = nI 0 := by rw [h.2.2.2.2.2.1.2, ht]; rfl
  refine ⟨d2 d 65 7 (nI 2), op_of pl_X7_goBack (Nat.le_of_ble_eq_true rfl) ?_, RM_th h, d2_eq _ _ _ _, fc_d2 (fc_refl d) (by decide)⟩
  refine sw_aload_n (i := 0) dX7_goBack_0 rfl rfl ?_
  refine sw_iload_n (i := 1) dX7_goBack_1 rfl rfl ?_
  refine px_Sx ms_X7_164 (A1_X7_isSlot (a := 1) (by decide)) rfl rfl (Nat.le_of_ble_eq_true rfl) (Nat.le_of_ble_eq_true rfl) (Nat.le_of_ble_eq_true rfl) dX7_goBack_2 ?_
  refine sw_if_ne (tgt := 12) dX7_goBack_5 rfl (fun _ => ?_) (fun h9 => absurd h9 (by decide))
  refine sw_aload_n (i := 0) dX7_goBack_12 rfl rfl ?_
  refine sx_getR (q := 69) f_X7_19 (by decide) kr_65_4 dX7_goBack_13 ?_
  refine sw_iload_n (i := 1) dX7_goBack_16 rfl rfl ?_
  refine sw_ins (pc2 := 17) rfl rfl ?_
  refine sx_zaldE (1) (nI 0) hb rfl rfl (by omega) dX7_goBack_17 ?_
  refine sw_if_eq (tgt := 25) dX7_goBack_18 rfl (fun _ => ?_) (fun h9 => absurd (by decide) h9)
  refine sw_ic 2 dX7_goBack_25 ?_
  refine px_Vx mv_X7_92 (A0_X7_holds (k := 2) (by decide) (by decide)) rfl rfl (Nat.le_of_ble_eq_true rfl) (Nat.le_of_ble_eq_true rfl) ko_65 (Nat.le_of_ble_eq_true rfl) dX7_goBack_26 ?_
  refine sw_if_ne (tgt := 34) dX7_goBack_29 rfl (fun h9 => absurd (by decide) h9) (fun _ => ?_)
  refine sw_ic 0 dX7_goBack_32 ?_
  exact sw_ireturn rfl dX7_goBack_33
set_option maxRecDepth 100000 in
set_option maxHeartbeats 4000000 in
theorem M1_goBack {d : Nat → Nat → Int32} {r : Nat → Nat → Option Nat} {J : Nat → Nat → Int64} {V : Nat → Int32} {n : Nat} {H S : Nat → Nat → Int32} {t : Nat → Bool} {T : Nat → Int32} {tl : Nat} (h : RM d V n H S t T tl) (iv : IV V n H S t T tl) (ht : t 1 = true) : ∃ d1, OP kX7_goBack yX7_goBack 2 [.ref 65, .int (nI 1)] d r J (some (.int (S 1 0))) d1 r J ∧ RM d1 (S 1) (psN n) (psH H n V) S t T tl ∧ d1 65 7 = nI 0 ∧ fc d d1 := by
  obtain ⟨okP, okM, okT9, okC, okW, okD⟩ := id iv.1
  have hV : mV d = V := h.2.1
  have hm8 := okM.2
  have hb : d 69 1 = nI 1 := by rw [h.2.2.2.2.2.1.2, ht]; rfl
  have h0 := RM_th (x := nI 0) h
  obtain ⟨e1, s1, h1, k1, f1⟩ := M_save (r := r) (J := J) h0
  have k1 : e1 65 7 = nI 0 := k1.trans (d2_eq _ _ _ _)
  have f1 : fc d e1 := fc_tr (fc_d2 (fc_refl d) (by decide)) f1
  have v1 : mV e1 = V := h1.2.1
  have hcp := A_X7_copy (d := e1) (r := r) (J := J) (cf := 68) (ct := 66) (f := 83) (t := 0) (by decide) rfl rfl (by decide) (by decide)
  have hn : mV (dup e1 66 (cpG (e1 68) (e1 66) 83 0 83)) = S 1 := by
    refine Eq.trans ?_ (h1.2.2.2.2.1.2 ht)
    refine vM_same (d := e1) (c := 68) (o := 83) (fun j hj => ?_)
    rw [dup_eq, cpG_in hj rfl]
  obtain ⟨r1, r2, r3⟩ := RM_chg h1 hn (fun c q1 q2 q3 => dup_ne _ _ q1)
  refine ⟨_, op_of pl_X7_goBack (Nat.le_of_ble_eq_true rfl) ?_, r1, r2.trans k1, fc_tr f1 r3⟩
  refine sw_aload_n (i := 0) dX7_goBack_0 rfl rfl ?_
  refine sw_iload_n (i := 1) dX7_goBack_1 rfl rfl ?_
  refine px_Sx ms_X7_164 (A1_X7_isSlot (a := 1) (by decide)) rfl rfl (Nat.le_of_ble_eq_true rfl) (Nat.le_of_ble_eq_true rfl) (Nat.le_of_ble_eq_true rfl) dX7_goBack_2 ?_
  refine sw_if_ne (tgt := 12) dX7_goBack_5 rfl (fun _ => ?_) (fun h9 => absurd h9 (by decide))
  refine sw_aload_n (i := 0) dX7_goBack_12 rfl rfl ?_
  refine sx_getR (q := 69) f_X7_19 (by decide) kr_65_4 dX7_goBack_13 ?_
  refine sw_iload_n (i := 1) dX7_goBack_16 rfl rfl ?_
  refine sw_ins (pc2 := 17) rfl rfl ?_
  refine sx_zaldE (1) (nI 1) hb rfl rfl (by omega) dX7_goBack_17 ?_
  refine sw_if_eq (tgt := 25) dX7_goBack_18 rfl (fun h9 => absurd h9 (by decide)) (fun _ => ?_)
  refine sw_ic 0 dX7_goBack_21 ?_
  refine sw_goto (tgt := 26) dX7_goBack_22 rfl ?_
  refine px_Vx mv_X7_92 A1_X7_holds rfl rfl (Nat.le_of_ble_eq_true rfl) (Nat.le_of_ble_eq_true rfl) ko_65 (Nat.le_of_ble_eq_true rfl) dX7_goBack_26 ?_
  refine sw_if_ne (tgt := 34) dX7_goBack_29 rfl (fun _ => ?_) (fun h9 => absurd h9 (by decide))
  refine sw_aload_n (i := 0) dX7_goBack_34 rfl rfl ?_
  refine px_Vv mv_X7_95 s1 rfl rfl (Nat.le_of_ble_eq_true rfl) (Nat.le_of_ble_eq_true rfl) ko_65 (Nat.le_of_ble_eq_true rfl) dX7_goBack_35 ?_
  refine sw_ins (pc2 := 38) rfl rfl ?_
  refine sw_aload_n (i := 0) dX7_goBack_38 rfl rfl ?_
  refine sx_getR (q := 68) f_X7_16 (by decide) kr_65_3 dX7_goBack_39 ?_
  refine sw_bi 83 dX7_goBack_42 (by decide +kernel) ?_
  refine sw_iload_n (i := 1) dX7_goBack_44 rfl rfl ?_
  refine sw_imul dX7_goBack_45 ?_
  refine sw_topE (v := nI 83) (by decide) ?_
  refine sw_aload_n (i := 0) dX7_goBack_46 rfl rfl ?_
  refine sx_getR (q := 66) f_X7_7 (by decide) kr_65_0 dX7_goBack_47 ?_
  refine sw_ic 0 dX7_goBack_50 ?_
  refine sw_ins (pc2 := 51) rfl rfl ?_
  refine px_Sv ms_X7_46 hcp rfl rfl (Nat.le_of_ble_eq_true rfl) (Nat.le_of_ble_eq_true rfl) (Nat.le_of_ble_eq_true rfl) dX7_goBack_51 ?_
  refine sw_aload_n (i := 0) dX7_goBack_54 rfl rfl ?_
  refine sx_getR (q := 66) f_X7_7 (by decide) kr_65_0 dX7_goBack_55 ?_
  refine sw_ic 0 dX7_goBack_58 ?_
  refine sx_ialdE (0) (S 1 0) ((mV_in _ (by decide) rfl).trans (congrFun hn 0)) rfl rfl (by omega) dX7_goBack_59 ?_
  exact sw_ireturn rfl dX7_goBack_60
set_option maxRecDepth 100000 in
set_option maxHeartbeats 4000000 in
theorem N_undo {d : Nat → Nat → Int32} {r : Nat → Nat → Option Nat} {J : Nat → Nat → Int64} {V : Nat → Int32} {n : Nat} {H S : Nat → Nat → Int32} {t : Nat → Bool} {T : Nat → Int32} {tl : Nat} (h : RM d V n H S t T tl) (iv : IV V n H S t T tl) (h0 : n = 0) : ∃ d1, OP kX7_undo yX7_undo 1 [.ref 65] d r J (some (.int (nI 0))) d1 r J ∧ RM d1 V n H S t T tl ∧ d1 65 7 = nI 1 ∧ fc d d1 := by
  obtain ⟨okP, okM, okT9, okC, okW, okD⟩ := id iv.1
  have hV : mV d = V := h.2.1
  have hm8 := okM.2
  subst h0
  refine ⟨d2 d 65 7 (nI 1), op_of pl_X7_undo (Nat.le_of_ble_eq_true rfl) ?_, RM_th h, d2_eq _ _ _ _, fc_d2 (fc_refl d) (by decide)⟩
  refine sw_aload_n (i := 0) dX7_undo_0 rfl rfl ?_
  refine sw_aload_n (i := 0) dX7_undo_1 rfl rfl ?_
  refine sx_getIE (nI 0) h.2.2.1 f_X7_43 (by decide) kf_65_2 dX7_undo_2 ?_
  refine sw_if_le (tgt := 12) dX7_undo_5 rfl (fun _ => ?_) (fun h9 => absurd (by decide) h9)
  refine sw_ic 1 dX7_undo_12 ?_
  refine px_Vx mv_X7_92 (A0_X7_holds (k := 1) (by decide) (by decide)) rfl rfl (Nat.le_of_ble_eq_true rfl) (Nat.le_of_ble_eq_true rfl) ko_65 (Nat.le_of_ble_eq_true rfl) dX7_undo_13 ?_
  refine sw_if_ne (tgt := 21) dX7_undo_16 rfl (fun h9 => absurd (by decide) h9) (fun _ => ?_)
  refine sw_ins (pc2 := 19) rfl rfl ?_
  refine sw_ic 0 dX7_undo_19 ?_
  exact sw_ireturn rfl dX7_undo_20
set_option maxRecDepth 100000 in
set_option maxHeartbeats 4000000 in
theorem M_undo {d : Nat → Nat → Int32} {r : Nat → Nat → Option Nat} {J : Nat → Nat → Int64} {V : Nat → Int32} {n : Nat} {H S : Nat → Nat → Int32} {t : Nat → Bool} {T : Nat → Int32} {tl : Nat} (h : RM d V n H S t T tl) (iv : IV V n H S t T tl) (h0 : 1 ≤ n) : ∃ d1, OP kX7_undo yX7_undo 1 [.ref 65] d r J (some (.int (nI (n - 1)))) d1 r J ∧ RM d1 (H (n - 1)) (n - 1) H S t T tl ∧ d1 65 7 = nI 0 ∧ fc d d1 := by
  obtain ⟨okP, okM, okT9, okC, okW, okD⟩ := id iv.1
  have hV : mV d = V := h.2.1
  have hm8 := okM.2
  have h6 := h.1
  have hx := RM_th (x := nI 0) h
  obtain ⟨g1, g2, g3, g4, g5, ⟨g6, g7⟩, g8, g9⟩ := id hx
  obtain ⟨w1, hw1⟩ : ∃ w, w = d2 (d2 d 65 7 (nI 0)) 65 2 (nI (n - 1)) := ⟨_, rfl⟩
  have q66 : w1 66 = d2 d 65 7 (nI 0) 66 := by rw [hw1]; exact d2_off _ _ (by decide)
  have q67 : w1 67 = d2 d 65 7 (nI 0) 67 := by rw [hw1]; exact d2_off _ _ (by decide)
  have qn : w1 65 2 = nI (n - 1) := by rw [hw1]; exact d2_eq _ _ _ _
  have hcp := A_X7_copy (d := w1) (r := r) (J := J) (cf := 67) (ct := 66) (f := 83 * (n - 1)) (t := 0) (by decide) rfl rfl (by omega) (by decide)
  have hn : mV (dup w1 66 (cpG (w1 67) (w1 66) (83 * (n - 1)) 0 83)) = H (n - 1) := by
    refine Eq.trans ?_ (g4 (n - 1) (by omega))
    refine vM_same (d := d2 d 65 7 (nI 0)) (c := 67) (o := 83 * (n - 1)) (fun j hj => ?_)
    rw [dup_eq, cpG_in hj rfl, q67]
  refine ⟨dup w1 66 (cpG (w1 67) (w1 66) (83 * (n - 1)) 0 83), op_of pl_X7_undo (Nat.le_of_ble_eq_true rfl) ?_, ⟨by omega, hn, ?_, fun i hi => ?_, ⟨fun z => ?_, fun z => ?_⟩, ⟨?_, ?_⟩, ?_, fun i hi => ?_⟩, ?_, ?_⟩
  ·
    refine sw_aload_n (i := 0) dX7_undo_0 rfl rfl ?_
    refine sw_aload_n (i := 0) dX7_undo_1 rfl rfl ?_
    refine sx_getIE (nI n) h.2.2.1 f_X7_43 (by decide) kf_65_2 dX7_undo_2 ?_
    refine sw_if_le (tgt := 12) dX7_undo_5 rfl (fun h9 => absurd h9 (nI_ge (a := 0) (b := n) (by omega) (by omega))) (fun _ => ?_)
    refine sw_ic 0 dX7_undo_8 ?_
    refine sw_goto (tgt := 13) dX7_undo_9 rfl ?_
    refine px_Vx mv_X7_92 A1_X7_holds rfl rfl (Nat.le_of_ble_eq_true rfl) (Nat.le_of_ble_eq_true rfl) ko_65 (Nat.le_of_ble_eq_true rfl) dX7_undo_13 ?_
    refine sw_ins (pc2 := 16) rfl rfl ?_
    refine sw_if_ne (tgt := 21) dX7_undo_16 rfl (fun _ => ?_) (fun h9 => absurd h9 (by decide))
    refine sw_aload_n (i := 0) dX7_undo_21 rfl rfl ?_
    refine sw_dup dX7_undo_22 rfl ?_
    refine sx_getIE (nI n) g3 f_X7_43 (by decide) kf_65_2 dX7_undo_23 ?_
    refine sw_ic 1 dX7_undo_26 ?_
    refine sw_isub dX7_undo_27 ?_
    refine sw_topE (v := nI (n - 1)) (pk_sub (by omega)) ?_
    refine sx_putI fp_X7_43 (by decide) kf_65_2 dX7_undo_28 ?_
    rw [← hw1]
    refine sw_aload_n (i := 0) dX7_undo_31 rfl rfl ?_
    refine sw_ins (pc2 := 32) rfl rfl ?_
    refine sx_getR (q := 67) f_X7_13 (by decide) kr_65_1 dX7_undo_32 ?_
    refine sw_bi 83 dX7_undo_35 (by decide +kernel) ?_
    refine sw_aload_n (i := 0) dX7_undo_37 rfl rfl ?_
    refine sx_getIE (nI (n - 1)) qn f_X7_43 (by decide) kf_65_2 dX7_undo_38 ?_
    refine sw_imul dX7_undo_41 ?_
    refine sw_topE (v := nI (83 * (n - 1))) (pk_mul _ _) ?_
    refine sw_aload_n (i := 0) dX7_undo_42 rfl rfl ?_
    refine sx_getR (q := 66) f_X7_7 (by decide) kr_65_0 dX7_undo_43 ?_
    refine sw_ic 0 dX7_undo_46 ?_
    refine sw_ins (pc2 := 47) rfl rfl ?_
    refine px_Sv ms_X7_46 hcp rfl rfl (Nat.le_of_ble_eq_true rfl) (Nat.le_of_ble_eq_true rfl) (Nat.le_of_ble_eq_true rfl) dX7_undo_47 ?_
    refine sw_aload_n (i := 0) dX7_undo_50 rfl rfl ?_
    refine sx_getIE (nI (n - 1)) ((congrFun (dup_ne _ _ (by decide)) _).trans qn) f_X7_43 (by decide) kf_65_2 dX7_undo_51 ?_
    exact sw_ireturn rfl dX7_undo_54
  · rw [dup_ne _ _ (by decide)]
    exact qn
  · refine (vM_keep ?_).trans (g4 i (by omega))
    rw [dup_ne _ _ (by decide), hw1, d2_off _ _ (by decide)]
  · refine (vM_keep ?_).trans (g5.1 z)
    rw [dup_ne _ _ (by decide), hw1, d2_off _ _ (by decide)]
  · refine (vM_keep ?_).trans (g5.2 z)
    rw [dup_ne _ _ (by decide), hw1, d2_off _ _ (by decide)]
  · rw [dup_ne _ _ (by decide), hw1, d2_off _ _ (by decide)]
    exact g6
  · rw [dup_ne _ _ (by decide), hw1, d2_off _ _ (by decide)]
    exact g7
  · rw [dup_ne _ _ (by decide), hw1, d2_ne _ _ (Or.inr (by decide))]
    exact g8
  · rw [dup_ne _ _ (by decide), hw1, d2_off _ _ (by decide)]
    exact g9 i hi
  · rw [dup_ne _ _ (by decide), hw1, d2_ne _ _ (Or.inr (by decide)), d2_eq]
  · rw [hw1]
    exact fc_dup (fc_d2 (fc_d2 (fc_refl d) (by decide)) (by decide)) (by decide)
set_option maxRecDepth 100000 in
set_option maxHeartbeats 4000000 in
theorem A_X7_thrown {d : Nat → Nat → Int32} {r : Nat → Nat → Option Nat} {J : Nat → Nat → Int64} {k : Nat} (hk : d 65 7 = nI k) : OP kX7_thrown yX7_thrown 0 [.ref 65] d r J (some (.int (nI k))) d r J := by
  refine op_of pl_X7_thrown (Nat.le_of_ble_eq_true rfl) ?_
  refine sw_aload_n (i := 0) dX7_thrown_0 rfl rfl ?_
  refine sx_getIE (nI k) hk f_X7_35 (by decide) kf_65_7 dX7_thrown_1 ?_
  exact sw_ireturn rfl dX7_thrown_4
