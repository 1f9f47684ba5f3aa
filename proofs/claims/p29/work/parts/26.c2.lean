/-! THE CLASS'S CALLS, 2: append, clearBuffer, firstError, run, keep, goBack, undo (own work, written by wip/tools) -/
theorem ko_53 : kO 53 1 := kO_B isB_53
theorem ko_59 : kO 59 1 := kO_B isB_59
section RCS2
variable {d : Nat → Nat → Int32} {r : Nat → Nat → Option Nat} {J : Nat → Nat → Int64} {V : Nat → Int32} {n : Nat} {H S : Nat → Nat → Int32} {t : Nat → Bool} {T : Nat → Int32} {tl : Nat}
theorem RC_text {d1 : Nat → Nat → Int32} {T' : Nat → Int32} {k : Nat} (h : RC d r V n H S t T tl) (f : ∀ c, c ≠ 48 → c ≠ 49 → d1 c = d c) (h1 : d1 48 1 = nI k) (h2 : d1 49 = T') : RC d1 r V n H S t T' k := by
  have h6 := rc6 h
  refine ⟨h.1, h.2.1, h.2.2.1, ?_, ?_, fun i hi => ?_, ⟨fun q => ?_, fun q => ?_⟩, ⟨?_, ?_⟩, h1, h2⟩
  · exact (cV_keep (fun c hc => f c (by omega) (by omega))).trans (rcV h)
  · rw [f 7 (by omega) (by omega)]
    exact rcN h
  · have hs := (h.1.1 i (by omega)).2.2
    exact (cV_keep (fun c hc => f c (by omega) (by omega))).trans (rcH h i hi)
  · exact (cV_keep (fun c hc => f c (by omega) (by omega))).trans (rcS0 h q)
  · exact (cV_keep (fun c hc => f c (by omega) (by omega))).trans (rcS1 h q)
  · rw [f 51 (by omega) (by omega)]
    exact rcT0 h
  · rw [f 51 (by omega) (by omega)]
    exact rcT1 h
theorem RC_len {k : Nat} (h : RC d r V n H S t T tl) : RC (d2 d 48 1 (nI k)) r V n H S t T k := RC_text h (fun c h1 h2 => d2_off _ _ h1) (d2_eq _ _ _ _) ((d2_off _ _ (by decide)).trans (rcT h))
def sS (S : Nat → Nat → Int32) (s : Nat) (V : Nat → Int32) (i : Nat) : Nat → Int32 := if i = s then V else S i
def sT (t : Nat → Bool) (s : Nat) (i : Nat) : Bool := if i = s then true else t i
theorem RC_slot {d1 : Nat → Nat → Int32} {s : Nat} (hs : s < 2) (h : RC d r V n H S t T tl) (f : ∀ c, c < 51 → d1 c = d c) (hx : ∀ i, i < 2 → i ≠ s → cV d1 (53 + 6 * i) = cV d (53 + 6 * i) ∧ d1 51 i = d 51 i) (hy : cV d1 (53 + 6 * s) = V) (hz : d1 51 s = nI 1) : RC d1 r V n H (sS S s V) (sT t s) T tl := by
  have h6 := rc6 h
  refine ⟨h.1, h.2.1, h.2.2.1, ?_, ?_, fun i hi => ?_, ⟨fun q => ?_, fun q => ?_⟩, ⟨?_, ?_⟩, ?_, ?_⟩
  · exact (cV_keep (fun c hc => f c (by omega))).trans (rcV h)
  · rw [f 7 (by omega)]
    exact rcN h
  · have hs := (h.1.1 i (by omega)).2.2
    exact (cV_keep (fun c hc => f c (by omega))).trans (rcH h i hi)
  · unfold sS
    by_cases e : 0 = s
    · rw [if_pos e]
      subst e
      exact hy
    · rw [if_neg e]
      unfold sT at q
      rw [if_neg e] at q
      exact (hx 0 (by decide) e).1.trans (rcS0 h q)
  · unfold sS
    by_cases e : 1 = s
    · rw [if_pos e]
      subst e
      exact hy
    · rw [if_neg e]
      unfold sT at q
      rw [if_neg e] at q
      exact (hx 1 (by decide) e).1.trans (rcS1 h q)
  · unfold sT
    by_cases e : 0 = s
    · rw [if_pos e]
      subst e
      exact hz
    · rw [if_neg e, (hx 0 (by decide) e).2]
      exact rcT0 h
  · unfold sT
    by_cases e : 1 = s
    · rw [if_pos e]
      subst e
      exact hz
    · rw [if_neg e, (hx 1 (by decide) e).2]
      exact rcT1 h
  · rw [f 48 (by omega)]
    exact rcL h
  · rw [f 49 (by omega)]
    exact rcT h
end RCS2

set_option maxRecDepth 100000 in
set_option maxHeartbeats 4000000 in
theorem C0_keep {d : Nat → Nat → Int32} {r : Nat → Nat → Option Nat} {J : Nat → Nat → Int64} {V : Nat → Int32} {n : Nat} {H S : Nat → Nat → Int32} {t : Nat → Bool} {T : Nat → Int32} {tl : Nat} (h : RC d r V n H S t T tl) (iv : IV V n H S t T tl)  : ∃ d1 r1, OP kX6_keep yX6_keep 7 [.ref 0, .int (nI 0)] d r J (some (.int (V 0))) d1 r1 J ∧ RC d1 r1 V n H (sS S 0 V) (sT t 0) T tl ∧ fm d d1 := by
  obtain ⟨e1, a1, b1, c1⟩ := A_X2_copy (d := d) (r := r) (J := J) (b := 53) (e := 1) isB_53 isB_1 (by decide)
  rw [rcV h] at b1
  have hv : cV (d2 e1 51 0 (nI 1)) 1 = V := (cV_keep (fun c hc => by rw [d2_off _ _ (by omega), c1 c (by omega) (by omega) (by omega) (by omega) (by omega)])).trans (rcV h)
  refine ⟨d2 e1 51 0 (nI 1), r, op_of pl_X6_keep (Nat.le_of_ble_eq_true rfl) ?_, RC_slot (s := 0) (by decide) h (fun c hc => by rw [d2_off _ _ (by omega), c1 c (by omega) (by omega) (by omega) (by omega) (by omega)]) ?_ ?_ (d2_eq _ _ _ _), fun c hc => by rw [d2_off _ _ (by omega), c1 c (by omega) (by omega) (by omega) (by omega) (by omega)]⟩
  ·
    refine sw_iload_n (i := 1) dX6_keep_0 rfl rfl ?_
    refine sw_ic 0 dX6_keep_1 ?_
    refine sw_ic 1 dX6_keep_2 ?_
    refine px_Sv ms_X6_86 (A_X6_needRange (a := 0) (lo := 0) (hi := 1) (Nat.zero_le _) (by decide) (by decide)) rfl rfl (Nat.le_of_ble_eq_true rfl) (Nat.le_of_ble_eq_true rfl) (Nat.le_of_ble_eq_true rfl) dX6_keep_3 ?_
    refine sw_aload_n (i := 0) dX6_keep_6 rfl rfl ?_
    refine sx_getR (q := 1) f_X6_10 (by decide) kr_0_0 dX6_keep_7 ?_
    refine sw_aload_n (i := 0) dX6_keep_10 rfl rfl ?_
    refine sw_ins (pc2 := 11) rfl rfl ?_
    refine sx_getR (q := 50) f_X6_37 (by decide) kr_0_4 dX6_keep_11 ?_
    refine sw_iload_n (i := 1) dX6_keep_14 rfl rfl ?_
    refine sx_aald (q := 53) (0) rfl rfl (by omega) h.2.2.1.1 dX6_keep_15 ?_
    refine px_Sv ms_X6_151 a1 rfl rfl (Nat.le_of_ble_eq_true rfl) (Nat.le_of_ble_eq_true rfl) (Nat.le_of_ble_eq_true rfl) dX6_keep_16 ?_
    refine sw_aload_n (i := 0) dX6_keep_19 rfl rfl ?_
    refine sx_getR (q := 51) f_X6_41 (by decide) kr_0_5 dX6_keep_20 ?_
    refine sw_iload_n (i := 1) dX6_keep_23 rfl rfl ?_
    refine sw_ic 1 dX6_keep_24 ?_
    refine sw_ins (pc2 := 25) rfl rfl ?_
    refine sx_zast (0) rfl rfl (by omega) rfl dX6_keep_25 ?_
    refine sw_aload_n (i := 0) dX6_keep_26 rfl rfl ?_
    refine sx_getR (q := 1) f_X6_10 (by decide) kr_0_0 dX6_keep_27 ?_
    refine sx_getIE (V 0) ((cV_day (d2 e1 51 0 (nI 1)) 1).trans (congrFun hv 0)) f_X6_155 (by decide) kf_1_6 dX6_keep_30 ?_
    exact sw_ireturn rfl dX6_keep_33
  · intro i hi hne
    have e : i = 1 := by omega
    subst e
    refine ⟨cV_keep (fun c hc => by rw [d2_off _ _ (by omega), c1 c (by omega) (by omega) (by omega) (by omega) (by omega)]), ?_⟩
    rw [d2_ne _ _ (Or.inr (by decide)), c1 51 (by decide) (by decide) (by decide) (by decide) (by decide)]
  · exact (cV_keep (fun c hc => d2_off _ _ (by omega))).trans b1
set_option maxRecDepth 100000 in
set_option maxHeartbeats 4000000 in
theorem C1_keep {d : Nat → Nat → Int32} {r : Nat → Nat → Option Nat} {J : Nat → Nat → Int64} {V : Nat → Int32} {n : Nat} {H S : Nat → Nat → Int32} {t : Nat → Bool} {T : Nat → Int32} {tl : Nat} (h : RC d r V n H S t T tl) (iv : IV V n H S t T tl)  : ∃ d1 r1, OP kX6_keep yX6_keep 7 [.ref 0, .int (nI 1)] d r J (some (.int (V 0))) d1 r1 J ∧ RC d1 r1 V n H (sS S 1 V) (sT t 1) T tl ∧ fm d d1 := by
  obtain ⟨e1, a1, b1, c1⟩ := A_X2_copy (d := d) (r := r) (J := J) (b := 59) (e := 1) isB_59 isB_1 (by decide)
  rw [rcV h] at b1
  have hv : cV (d2 e1 51 1 (nI 1)) 1 = V := (cV_keep (fun c hc => by rw [d2_off _ _ (by omega), c1 c (by omega) (by omega) (by omega) (by omega) (by omega)])).trans (rcV h)
  refine ⟨d2 e1 51 1 (nI 1), r, op_of pl_X6_keep (Nat.le_of_ble_eq_true rfl) ?_, RC_slot (s := 1) (by decide) h (fun c hc => by rw [d2_off _ _ (by omega), c1 c (by omega) (by omega) (by omega) (by omega) (by omega)]) ?_ ?_ (d2_eq _ _ _ _), fun c hc => by rw [d2_off _ _ (by omega), c1 c (by omega) (by omega) (by omega) (by omega) (by omega)]⟩
  ·
    refine sw_iload_n (i := 1) dX6_keep_0 rfl rfl ?_
    refine sw_ic 0 dX6_keep_1 ?_
    refine sw_ic 1 dX6_keep_2 ?_
    refine px_Sv ms_X6_86 (A_X6_needRange (a := 1) (lo := 0) (hi := 1) (Nat.zero_le _) (by decide) (by decide)) rfl rfl (Nat.le_of_ble_eq_true rfl) (Nat.le_of_ble_eq_true rfl) (Nat.le_of_ble_eq_true rfl) dX6_keep_3 ?_
    refine sw_aload_n (i := 0) dX6_keep_6 rfl rfl ?_
    refine sx_getR (q := 1) f_X6_10 (by decide) kr_0_0 dX6_keep_7 ?_
    refine sw_aload_n (i := 0) dX6_keep_10 rfl rfl ?_
    refine sw_ins (pc2 := 11) rfl rfl ?_
    refine sx_getR (q := 50) f_X6_37 (by decide) kr_0_4 dX6_keep_11 ?_
    refine sw_iload_n (i := 1) dX6_keep_14 rfl rfl ?_
    refine sx_aald (q := 59) (1) rfl rfl (by omega) h.2.2.1.2 dX6_keep_15 ?_
    refine px_Sv ms_X6_151 a1 rfl rfl (Nat.le_of_ble_eq_true rfl) (Nat.le_of_ble_eq_true rfl) (Nat.le_of_ble_eq_true rfl) dX6_keep_16 ?_
    refine sw_aload_n (i := 0) dX6_keep_19 rfl rfl ?_
    refine sx_getR (q := 51) f_X6_41 (by decide) kr_0_5 dX6_keep_20 ?_
    refine sw_iload_n (i := 1) dX6_keep_23 rfl rfl ?_
    refine sw_ic 1 dX6_keep_24 ?_
    refine sw_ins (pc2 := 25) rfl rfl ?_
    refine sx_zast (1) rfl rfl (by omega) rfl dX6_keep_25 ?_
    refine sw_aload_n (i := 0) dX6_keep_26 rfl rfl ?_
    refine sx_getR (q := 1) f_X6_10 (by decide) kr_0_0 dX6_keep_27 ?_
    refine sx_getIE (V 0) ((cV_day (d2 e1 51 1 (nI 1)) 1).trans (congrFun hv 0)) f_X6_155 (by decide) kf_1_6 dX6_keep_30 ?_
    exact sw_ireturn rfl dX6_keep_33
  · intro i hi hne
    have e : i = 0 := by omega
    subst e
    refine ⟨cV_keep (fun c hc => by rw [d2_off _ _ (by omega), c1 c (by omega) (by omega) (by omega) (by omega) (by omega)]), ?_⟩
    rw [d2_ne _ _ (Or.inr (by decide)), c1 51 (by decide) (by decide) (by decide) (by decide) (by decide)]
  · exact (cV_keep (fun c hc => d2_off _ _ (by omega))).trans b1
set_option maxRecDepth 100000 in
set_option maxHeartbeats 4000000 in
theorem C0_goBack {d : Nat → Nat → Int32} {r : Nat → Nat → Option Nat} {J : Nat → Nat → Int64} {V : Nat → Int32} {n : Nat} {H S : Nat → Nat → Int32} {t : Nat → Bool} {T : Nat → Int32} {tl : Nat} (h : RC d r V n H S t T tl) (iv : IV V n H S t T tl) (ht : t 0 = true) : ∃ d1 r1, OP kX6_goBack yX6_goBack 7 [.ref 0, .int (nI 0)] d r J (some (.int (S 0 0))) d1 r1 J ∧ RC d1 r1 (S 0) (psN n) (psH H n V) S t T tl ∧ fm d d1 := by
  obtain ⟨d1, r1, g1, h1, f1⟩ := C_push (J := J) h
  have v1 : cV d1 1 = V := rcV h1
  have fp : fm d d1 := fun c hc => f1 c (by omega)
  obtain ⟨e1, a1, b1, c1⟩ := A_X2_copy (d := d1) (r := r1) (J := J) (b := 1) (e := 53) isB_1 isB_53 (by decide)
  rw [rcS0 h1 ht] at b1
  refine ⟨e1, r1, op_of pl_X6_goBack (Nat.le_of_ble_eq_true rfl) ?_, RC_isl h1 (fun c q1 q2 q3 q4 => c1 c (by omega) (by omega) (by omega) (by omega) (by omega)) b1, fm_trans fp (fun c hc => c1 c (by omega) (by omega) (by omega) (by omega) (by omega))⟩
  refine sw_iload_n (i := 1) dX6_goBack_0 rfl rfl ?_
  refine sw_ic 0 dX6_goBack_1 ?_
  refine sw_ic 1 dX6_goBack_2 ?_
  refine px_Sv ms_X6_86 (A_X6_needRange (a := 0) (lo := 0) (hi := 1) (Nat.zero_le _) (by decide) (by decide)) rfl rfl (Nat.le_of_ble_eq_true rfl) (Nat.le_of_ble_eq_true rfl) (Nat.le_of_ble_eq_true rfl) dX6_goBack_3 ?_
  refine sw_aload_n (i := 0) dX6_goBack_6 rfl rfl ?_
  refine sx_getR (q := 51) f_X6_41 (by decide) kr_0_5 dX6_goBack_7 ?_
  refine sw_iload_n (i := 1) dX6_goBack_10 rfl rfl ?_
  refine sw_ins (pc2 := 11) rfl rfl ?_
  refine sx_zaldE (0) (nI 1) (by rw [rcT0 h, ht]; rfl) rfl rfl (by decide) dX6_goBack_11 ?_
  refine sw_if_ne (tgt := 25) dX6_goBack_12 rfl (fun _ => ?_) (fun h9 => absurd h9 (by decide))
  refine sw_aload_n (i := 0) dX6_goBack_25 rfl rfl ?_
  refine sx_getR (q := 7) f_X6_19 (by decide) kr_0_1 dX6_goBack_26 ?_
  refine sw_aload_n (i := 0) dX6_goBack_29 rfl rfl ?_
  refine sx_getR (q := 1) f_X6_10 (by decide) kr_0_0 dX6_goBack_30 ?_
  refine px_Vv mv_X6_60 g1 rfl rfl (Nat.le_of_ble_eq_true rfl) (Nat.le_of_ble_eq_true rfl) ko_7 (Nat.le_of_ble_eq_true rfl) dX6_goBack_33 ?_
  refine sw_aload_n (i := 0) dX6_goBack_36 rfl rfl ?_
  refine sw_ins (pc2 := 37) rfl rfl ?_
  refine sx_getR (q := 50) f_X6_37 (by decide) kr_0_4 dX6_goBack_37 ?_
  refine sw_iload_n (i := 1) dX6_goBack_40 rfl rfl ?_
  refine sx_aald (q := 53) (0) rfl rfl (by omega) h1.2.2.1.1 dX6_goBack_41 ?_
  refine sw_aload_n (i := 0) dX6_goBack_42 rfl rfl ?_
  refine sx_getR (q := 1) f_X6_10 (by decide) kr_0_0 dX6_goBack_43 ?_
  refine px_Sv ms_X6_151 a1 rfl rfl (Nat.le_of_ble_eq_true rfl) (Nat.le_of_ble_eq_true rfl) (Nat.le_of_ble_eq_true rfl) dX6_goBack_46 ?_
  refine sw_aload_n (i := 0) dX6_goBack_49 rfl rfl ?_
  refine sx_getR (q := 1) f_X6_10 (by decide) kr_0_0 dX6_goBack_50 ?_
  refine sw_ins (pc2 := 53) rfl rfl ?_
  refine sx_getIE ((S 0) 0) ((cV_day e1 1).trans (congrFun b1 0)) f_X6_155 (by decide) kf_1_6 dX6_goBack_53 ?_
  exact sw_ireturn rfl dX6_goBack_56
set_option maxRecDepth 100000 in
set_option maxHeartbeats 4000000 in
theorem C1_goBack {d : Nat → Nat → Int32} {r : Nat → Nat → Option Nat} {J : Nat → Nat → Int64} {V : Nat → Int32} {n : Nat} {H S : Nat → Nat → Int32} {t : Nat → Bool} {T : Nat → Int32} {tl : Nat} (h : RC d r V n H S t T tl) (iv : IV V n H S t T tl) (ht : t 1 = true) : ∃ d1 r1, OP kX6_goBack yX6_goBack 7 [.ref 0, .int (nI 1)] d r J (some (.int (S 1 0))) d1 r1 J ∧ RC d1 r1 (S 1) (psN n) (psH H n V) S t T tl ∧ fm d d1 := by
  obtain ⟨d1, r1, g1, h1, f1⟩ := C_push (J := J) h
  have v1 : cV d1 1 = V := rcV h1
  have fp : fm d d1 := fun c hc => f1 c (by omega)
  obtain ⟨e1, a1, b1, c1⟩ := A_X2_copy (d := d1) (r := r1) (J := J) (b := 1) (e := 59) isB_1 isB_59 (by decide)
  rw [rcS1 h1 ht] at b1
  refine ⟨e1, r1, op_of pl_X6_goBack (Nat.le_of_ble_eq_true rfl) ?_, RC_isl h1 (fun c q1 q2 q3 q4 => c1 c (by omega) (by omega) (by omega) (by omega) (by omega)) b1, fm_trans fp (fun c hc => c1 c (by omega) (by omega) (by omega) (by omega) (by omega))⟩
  refine sw_iload_n (i := 1) dX6_goBack_0 rfl rfl ?_
  refine sw_ic 0 dX6_goBack_1 ?_
  refine sw_ic 1 dX6_goBack_2 ?_
  refine px_Sv ms_X6_86 (A_X6_needRange (a := 1) (lo := 0) (hi := 1) (Nat.zero_le _) (by decide) (by decide)) rfl rfl (Nat.le_of_ble_eq_true rfl) (Nat.le_of_ble_eq_true rfl) (Nat.le_of_ble_eq_true rfl) dX6_goBack_3 ?_
  refine sw_aload_n (i := 0) dX6_goBack_6 rfl rfl ?_
  refine sx_getR (q := 51) f_X6_41 (by decide) kr_0_5 dX6_goBack_7 ?_
  refine sw_iload_n (i := 1) dX6_goBack_10 rfl rfl ?_
  refine sw_ins (pc2 := 11) rfl rfl ?_
  refine sx_zaldE (1) (nI 1) (by rw [rcT1 h, ht]; rfl) rfl rfl (by decide) dX6_goBack_11 ?_
  refine sw_if_ne (tgt := 25) dX6_goBack_12 rfl (fun _ => ?_) (fun h9 => absurd h9 (by decide))
  refine sw_aload_n (i := 0) dX6_goBack_25 rfl rfl ?_
  refine sx_getR (q := 7) f_X6_19 (by decide) kr_0_1 dX6_goBack_26 ?_
  refine sw_aload_n (i := 0) dX6_goBack_29 rfl rfl ?_
  refine sx_getR (q := 1) f_X6_10 (by decide) kr_0_0 dX6_goBack_30 ?_
  refine px_Vv mv_X6_60 g1 rfl rfl (Nat.le_of_ble_eq_true rfl) (Nat.le_of_ble_eq_true rfl) ko_7 (Nat.le_of_ble_eq_true rfl) dX6_goBack_33 ?_
  refine sw_aload_n (i := 0) dX6_goBack_36 rfl rfl ?_
  refine sw_ins (pc2 := 37) rfl rfl ?_
  refine sx_getR (q := 50) f_X6_37 (by decide) kr_0_4 dX6_goBack_37 ?_
  refine sw_iload_n (i := 1) dX6_goBack_40 rfl rfl ?_
  refine sx_aald (q := 59) (1) rfl rfl (by omega) h1.2.2.1.2 dX6_goBack_41 ?_
  refine sw_aload_n (i := 0) dX6_goBack_42 rfl rfl ?_
  refine sx_getR (q := 1) f_X6_10 (by decide) kr_0_0 dX6_goBack_43 ?_
  refine px_Sv ms_X6_151 a1 rfl rfl (Nat.le_of_ble_eq_true rfl) (Nat.le_of_ble_eq_true rfl) (Nat.le_of_ble_eq_true rfl) dX6_goBack_46 ?_
  refine sw_aload_n (i := 0) dX6_goBack_49 rfl rfl ?_
  refine sx_getR (q := 1) f_X6_10 (by decide) kr_0_0 dX6_goBack_50 ?_
  refine sw_ins (pc2 := 53) rfl rfl ?_
  refine sx_getIE ((S 1) 0) ((cV_day e1 1).trans (congrFun b1 0)) f_X6_155 (by decide) kf_1_6 dX6_goBack_53 ?_
  exact sw_ireturn rfl dX6_goBack_56
