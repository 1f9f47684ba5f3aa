/-! THE HISTORY: dropOldest, push, pop (own work, written by wip/tools) -/
/-- the island that the place i of the saved ones names -/
def sv (r : Nat → Nat → Option Nat) (i : Nat) : Nat := (r 8 i).getD 0
def okS (r : Nat → Nat → Option Nat) : Prop := (∀ i, i < 6 → r 8 i = some (sv r i) ∧ isB (sv r i) ∧ 9 ≤ sv r i ∧ sv r i ≤ 39) ∧ ∀ i j, i < 6 → j < 6 → sv r i = sv r j → i = j
def psN (n : Nat) : Nat := if n < 6 then n + 1 else 6
def psH (H : Nat → (Nat → Int32)) (n : Nat) (V : Nat → Int32) (i : Nat) : Nat → Int32 := if n < 6 then (if i = n then V else H i) else (if i = 5 then V else H (i + 1))

set_option maxRecDepth 100000 in
set_option maxHeartbeats 4000000 in
theorem A0_X1_dropOldest {d : Nat → Nat → Int32} {r : Nat → Nat → Option Nat} {J : Nat → Nat → Int64} (ok : okS r) (hn : d 7 1 = nI 6) : ∃ r1, OP kX1_dropOldest yX1_dropOldest 0 [.ref 7] d r J none (d2 d 7 1 (nI 5)) r1 J ∧ (∀ i, i < 6 → r1 8 i = some (if i < 5 then sv r (i + 1) else sv r 0)) ∧ ∀ c, c ≠ 8 → r1 c = r c := by
  refine ⟨_, op_of pl_X1_dropOldest (Nat.le_of_ble_eq_true rfl) (by
    refine sw_aload_n (i := 0) dX1_dropOldest_0 rfl rfl ?_
    refine sx_getR (q := 8) f_X1_11 (by decide) kr_7_0 dX1_dropOldest_1 ?_
    refine sw_ic 0 dX1_dropOldest_4 ?_
    refine sx_aald (q := (sv r 0)) (0) rfl rfl (by omega) (ok.1 0 (by decide)).1 dX1_dropOldest_5 ?_
    refine sw_astore_n (i := 1) dX1_dropOldest_6 rfl (Nat.le_of_ble_eq_true rfl) rfl ?_
    refine sw_lo (lo2 := [some (.ref 7), some (.ref ((sv r 0))), none]) rfl ?_
    refine sw_ic 1 dX1_dropOldest_7 ?_
    refine sw_istore_n (i := 2) dX1_dropOldest_8 rfl (Nat.le_of_ble_eq_true rfl) rfl ?_
    refine sw_lo (lo2 := [some (.ref 7), some (.ref ((sv r 0))), some (.int _)]) rfl ?_
    refine sw_ins (pc2 := 9) rfl rfl ?_
    refine sw_iload_n (i := 2) dX1_dropOldest_9 rfl rfl ?_
    refine sw_bi 6 dX1_dropOldest_10 (by decide +kernel) ?_
    refine sw_ic_ge (tgt := 35) dX1_dropOldest_12 rfl (fun h9 => absurd h9 (by decide)) (fun _ => ?_)
    refine sw_aload_n (i := 0) dX1_dropOldest_15 rfl rfl ?_
    refine sx_getR (q := 8) f_X1_11 (by decide) kr_7_0 dX1_dropOldest_16 ?_
    refine sw_iload_n (i := 2) dX1_dropOldest_19 rfl rfl ?_
    refine sw_ic 1 dX1_dropOldest_20 ?_
    refine sw_isub dX1_dropOldest_21 ?_
    refine sw_topE (v := nI 0) (by decide) ?_
    refine sw_ins (pc2 := 22) rfl rfl ?_
    refine sw_aload_n (i := 0) dX1_dropOldest_22 rfl rfl ?_
    refine sx_getR (q := 8) f_X1_11 (by decide) kr_7_0 dX1_dropOldest_23 ?_
    refine sw_iload_n (i := 2) dX1_dropOldest_26 rfl rfl ?_
    refine sx_aald (q := (sv r 1)) (1) rfl rfl (by omega) (ok.1 1 (by decide)).1 dX1_dropOldest_27 ?_
    refine sx_aast (0) rfl (ok.1 1 (by decide)).2.1 rfl (by omega) dX1_dropOldest_28 ?_
    refine sw_iinc (i := 2) (v := nI 2) dX1_dropOldest_29 rfl (by decide) (Nat.le_of_ble_eq_true rfl) rfl ?_
    refine sw_lo (lo2 := [some (.ref 7), some (.ref ((sv r 0))), some (.int _)]) rfl ?_
    refine sw_goto (tgt := 9) dX1_dropOldest_32 rfl ?_
    refine sw_iload_n (i := 2) dX1_dropOldest_9 rfl rfl ?_
    refine sw_ins (pc2 := 10) rfl rfl ?_
    refine sw_bi 6 dX1_dropOldest_10 (by decide +kernel) ?_
    refine sw_ic_ge (tgt := 35) dX1_dropOldest_12 rfl (fun h9 => absurd h9 (by decide)) (fun _ => ?_)
    refine sw_aload_n (i := 0) dX1_dropOldest_15 rfl rfl ?_
    refine sx_getR (q := 8) f_X1_11 (by decide) kr_7_0 dX1_dropOldest_16 ?_
    refine sw_iload_n (i := 2) dX1_dropOldest_19 rfl rfl ?_
    refine sw_ic 1 dX1_dropOldest_20 ?_
    refine sw_isub dX1_dropOldest_21 ?_
    refine sw_topE (v := nI 1) (by decide) ?_
    refine sw_aload_n (i := 0) dX1_dropOldest_22 rfl rfl ?_
    refine sw_ins (pc2 := 23) rfl rfl ?_
    refine sx_getR (q := 8) f_X1_11 (by decide) kr_7_0 dX1_dropOldest_23 ?_
    refine sw_iload_n (i := 2) dX1_dropOldest_26 rfl rfl ?_
    refine sx_aald (q := (sv r 2)) (2) rfl rfl (by omega) (by simp (disch := omega) only [d2_ne]; exact (ok.1 2 (by decide)).1) dX1_dropOldest_27 ?_
    refine sx_aast (1) rfl (ok.1 2 (by decide)).2.1 rfl (by omega) dX1_dropOldest_28 ?_
    refine sw_iinc (i := 2) (v := nI 3) dX1_dropOldest_29 rfl (by decide) (Nat.le_of_ble_eq_true rfl) rfl ?_
    refine sw_lo (lo2 := [some (.ref 7), some (.ref ((sv r 0))), some (.int _)]) rfl ?_
    refine sw_goto (tgt := 9) dX1_dropOldest_32 rfl ?_
    refine sw_iload_n (i := 2) dX1_dropOldest_9 rfl rfl ?_
    refine sw_bi 6 dX1_dropOldest_10 (by decide +kernel) ?_
    refine sw_ins (pc2 := 12) rfl rfl ?_
    refine sw_ic_ge (tgt := 35) dX1_dropOldest_12 rfl (fun h9 => absurd h9 (by decide)) (fun _ => ?_)
    refine sw_aload_n (i := 0) dX1_dropOldest_15 rfl rfl ?_
    refine sx_getR (q := 8) f_X1_11 (by decide) kr_7_0 dX1_dropOldest_16 ?_
    refine sw_iload_n (i := 2) dX1_dropOldest_19 rfl rfl ?_
    refine sw_ic 1 dX1_dropOldest_20 ?_
    refine sw_isub dX1_dropOldest_21 ?_
    refine sw_topE (v := nI 2) (by decide) ?_
    refine sw_aload_n (i := 0) dX1_dropOldest_22 rfl rfl ?_
    refine sx_getR (q := 8) f_X1_11 (by decide) kr_7_0 dX1_dropOldest_23 ?_
    refine sw_ins (pc2 := 26) rfl rfl ?_
    refine sw_iload_n (i := 2) dX1_dropOldest_26 rfl rfl ?_
    refine sx_aald (q := (sv r 3)) (3) rfl rfl (by omega) (by simp (disch := omega) only [d2_ne]; exact (ok.1 3 (by decide)).1) dX1_dropOldest_27 ?_
    refine sx_aast (2) rfl (ok.1 3 (by decide)).2.1 rfl (by omega) dX1_dropOldest_28 ?_
    refine sw_iinc (i := 2) (v := nI 4) dX1_dropOldest_29 rfl (by decide) (Nat.le_of_ble_eq_true rfl) rfl ?_
    refine sw_lo (lo2 := [some (.ref 7), some (.ref ((sv r 0))), some (.int _)]) rfl ?_
    refine sw_goto (tgt := 9) dX1_dropOldest_32 rfl ?_
    refine sw_iload_n (i := 2) dX1_dropOldest_9 rfl rfl ?_
    refine sw_bi 6 dX1_dropOldest_10 (by decide +kernel) ?_
    refine sw_ic_ge (tgt := 35) dX1_dropOldest_12 rfl (fun h9 => absurd h9 (by decide)) (fun _ => ?_)
    refine sw_ins (pc2 := 15) rfl rfl ?_
    refine sw_aload_n (i := 0) dX1_dropOldest_15 rfl rfl ?_
    refine sx_getR (q := 8) f_X1_11 (by decide) kr_7_0 dX1_dropOldest_16 ?_
    refine sw_iload_n (i := 2) dX1_dropOldest_19 rfl rfl ?_
    refine sw_ic 1 dX1_dropOldest_20 ?_
    refine sw_isub dX1_dropOldest_21 ?_
    refine sw_topE (v := nI 3) (by decide) ?_
    refine sw_aload_n (i := 0) dX1_dropOldest_22 rfl rfl ?_
    refine sx_getR (q := 8) f_X1_11 (by decide) kr_7_0 dX1_dropOldest_23 ?_
    refine sw_iload_n (i := 2) dX1_dropOldest_26 rfl rfl ?_
    refine sw_ins (pc2 := 27) rfl rfl ?_
    refine sx_aald (q := (sv r 4)) (4) rfl rfl (by omega) (by simp (disch := omega) only [d2_ne]; exact (ok.1 4 (by decide)).1) dX1_dropOldest_27 ?_
    refine sx_aast (3) rfl (ok.1 4 (by decide)).2.1 rfl (by omega) dX1_dropOldest_28 ?_
    refine sw_iinc (i := 2) (v := nI 5) dX1_dropOldest_29 rfl (by decide) (Nat.le_of_ble_eq_true rfl) rfl ?_
    refine sw_lo (lo2 := [some (.ref 7), some (.ref ((sv r 0))), some (.int _)]) rfl ?_
    refine sw_goto (tgt := 9) dX1_dropOldest_32 rfl ?_
    refine sw_iload_n (i := 2) dX1_dropOldest_9 rfl rfl ?_
    refine sw_bi 6 dX1_dropOldest_10 (by decide +kernel) ?_
    refine sw_ic_ge (tgt := 35) dX1_dropOldest_12 rfl (fun h9 => absurd h9 (by decide)) (fun _ => ?_)
    refine sw_aload_n (i := 0) dX1_dropOldest_15 rfl rfl ?_
    refine sw_ins (pc2 := 16) rfl rfl ?_
    refine sx_getR (q := 8) f_X1_11 (by decide) kr_7_0 dX1_dropOldest_16 ?_
    refine sw_iload_n (i := 2) dX1_dropOldest_19 rfl rfl ?_
    refine sw_ic 1 dX1_dropOldest_20 ?_
    refine sw_isub dX1_dropOldest_21 ?_
    refine sw_topE (v := nI 4) (by decide) ?_
    refine sw_aload_n (i := 0) dX1_dropOldest_22 rfl rfl ?_
    refine sx_getR (q := 8) f_X1_11 (by decide) kr_7_0 dX1_dropOldest_23 ?_
    refine sw_iload_n (i := 2) dX1_dropOldest_26 rfl rfl ?_
    refine sx_aald (q := (sv r 5)) (5) rfl rfl (by omega) (by simp (disch := omega) only [d2_ne]; exact (ok.1 5 (by decide)).1) dX1_dropOldest_27 ?_
    refine sw_ins (pc2 := 28) rfl rfl ?_
    refine sx_aast (4) rfl (ok.1 5 (by decide)).2.1 rfl (by omega) dX1_dropOldest_28 ?_
    refine sw_iinc (i := 2) (v := nI 6) dX1_dropOldest_29 rfl (by decide) (Nat.le_of_ble_eq_true rfl) rfl ?_
    refine sw_lo (lo2 := [some (.ref 7), some (.ref ((sv r 0))), some (.int _)]) rfl ?_
    refine sw_goto (tgt := 9) dX1_dropOldest_32 rfl ?_
    refine sw_iload_n (i := 2) dX1_dropOldest_9 rfl rfl ?_
    refine sw_bi 6 dX1_dropOldest_10 (by decide +kernel) ?_
    refine sw_ic_ge (tgt := 35) dX1_dropOldest_12 rfl (fun _ => ?_) (fun h9 => absurd (by decide) h9)
    refine sw_aload_n (i := 0) dX1_dropOldest_35 rfl rfl ?_
    refine sx_getR (q := 8) f_X1_11 (by decide) kr_7_0 dX1_dropOldest_36 ?_
    refine sw_ins (pc2 := 39) rfl rfl ?_
    refine sw_ic 5 dX1_dropOldest_39 ?_
    refine sw_aload_n (i := 1) dX1_dropOldest_40 rfl rfl ?_
    refine sx_aast (5) rfl (ok.1 0 (by decide)).2.1 rfl (by omega) dX1_dropOldest_41 ?_
    refine sw_aload_n (i := 0) dX1_dropOldest_42 rfl rfl ?_
    refine sw_dup dX1_dropOldest_43 rfl ?_
    refine sx_getIE (nI 6) hn f_X1_18 (by decide) kf_7_1 dX1_dropOldest_44 ?_
    refine sw_ic 1 dX1_dropOldest_47 ?_
    refine sw_isub dX1_dropOldest_48 ?_
    refine sw_topE (v := nI 5) (by decide) ?_
    refine sw_ins (pc2 := 49) rfl rfl ?_
    refine sx_putI fp_X1_18 (by decide) kf_7_1 dX1_dropOldest_49 ?_
    exact sw_return rfl dX1_dropOldest_52), ?_, ?_⟩
  · intro i hi
    match i, hi with
    | 0, _ => simp (disch := omega) only [d2_ne, d2_eq]; rfl
    | 1, _ => simp (disch := omega) only [d2_ne, d2_eq]; rfl
    | 2, _ => simp (disch := omega) only [d2_ne, d2_eq]; rfl
    | 3, _ => simp (disch := omega) only [d2_ne, d2_eq]; rfl
    | 4, _ => simp (disch := omega) only [d2_ne, d2_eq]; rfl
    | 5, _ => simp (disch := omega) only [d2_ne, d2_eq]; rfl
  · intro c hc
    simp (disch := omega) only [d2_off]
theorem okS_rot {r r1 : Nat → Nat → Option Nat} (ok : okS r) (h : ∀ i, i < 6 → r1 8 i = some (if i < 5 then sv r (i + 1) else sv r 0)) : okS r1 ∧ (∀ i, i < 5 → sv r1 i = sv r (i + 1)) ∧ sv r1 5 = sv r 0 := by
  have e : ∀ i, i < 6 → sv r1 i = if i < 5 then sv r (i + 1) else sv r 0 := by
    intro i hi
    show (r1 8 i).getD 0 = _
    rw [h i hi]
    rfl
  refine ⟨⟨fun i hi => ?_, fun i j hi hj hij => ?_⟩, fun i hi => by rw [e i (by omega), if_pos hi], by rw [e 5 (by decide), if_neg (by decide)]⟩
  · refine ⟨by rw [h i hi, e i hi], ?_⟩
    rw [e i hi]
    by_cases c : i < 5
    · rw [if_pos c]
      exact (ok.1 (i + 1) (by omega)).2
    · rw [if_neg c]
      exact (ok.1 0 (by omega)).2
  · rw [e i hi, e j hj] at hij
    by_cases c1 : i < 5 <;> by_cases c2 : j < 5
    · rw [if_pos c1, if_pos c2] at hij
      have := ok.2 _ _ (by omega) (by omega) hij
      omega
    · rw [if_pos c1, if_neg c2] at hij
      have := ok.2 _ _ (by omega) (by omega) hij
      omega
    · rw [if_neg c1, if_pos c2] at hij
      have := ok.2 _ _ (by omega) (by omega) hij
      omega
    · omega
set_option maxRecDepth 100000 in
set_option maxHeartbeats 4000000 in
theorem A0_X1_push {d : Nat → Nat → Int32} {r : Nat → Nat → Option Nat} {J : Nat → Nat → Int64} {n : Nat} (ok : okS r) (hlt : n < 6) (hn : d 7 1 = nI n) : ∃ d1 r1, OP kX1_push yX1_push 3 [.ref 7, .ref 1] d r J none d1 r1 J ∧ okS r1 ∧ r1 50 = r 50 ∧ d1 7 1 = nI (psN n) ∧ (∀ i, i < psN n → cV d1 (sv r1 i) = psH (fun i => cV d (sv r i)) n (cV d 1) i) ∧ ∀ c, c < 7 ∨ 45 ≤ c → d1 c = d c := by
  have hs := ok.1 n hlt
  have hsr : 9 ≤ sv r n ∧ sv r n ≤ 39 := hs.2.2
  obtain ⟨d1, g1, g2, g3⟩ := A_X2_copy (d := d) (r := r) (J := J) hs.2.1 isB_1 (by omega)
  have e7 : d1 7 1 = nI n := by rw [g3 7 (by omega) (by omega) (by omega) (by omega) (by omega)]; exact hn
  refine ⟨d2 d1 7 1 (nI n + nI 1), r, op_of pl_X1_push (Nat.le_of_ble_eq_true rfl) (by
    refine sw_aload_n (i := 0) dX1_push_0 rfl rfl ?_
    refine sx_getIE (nI n) hn f_X1_18 (by decide) kf_7_1 dX1_push_1 ?_
    refine sw_bi 6 dX1_push_4 (by decide +kernel) ?_
    refine sw_ic_lt (tgt := 13) dX1_push_6 rfl (fun _ => ?_) (fun h9 => absurd (nI_lt hlt (by decide)) h9)
    refine sw_aload_n (i := 1) dX1_push_13 rfl rfl ?_
    refine sw_aload_n (i := 0) dX1_push_14 rfl rfl ?_
    refine sx_getR (q := 8) f_X1_11 (by decide) kr_7_0 dX1_push_15 ?_
    refine sw_ins (pc2 := 18) rfl rfl ?_
    refine sw_aload_n (i := 0) dX1_push_18 rfl rfl ?_
    refine sx_getIE (nI n) hn f_X1_18 (by decide) kf_7_1 dX1_push_19 ?_
    refine sx_aald (q := (sv r n)) (n) rfl rfl (by omega) hs.1 dX1_push_22 ?_
    refine px_Sv ms_X1_25 g1 rfl rfl (Nat.le_of_ble_eq_true rfl) (Nat.le_of_ble_eq_true rfl) (Nat.le_of_ble_eq_true rfl) dX1_push_23 ?_
    refine sw_aload_n (i := 0) dX1_push_26 rfl rfl ?_
    refine sw_dup dX1_push_27 rfl ?_
    refine sx_getIE (nI n) e7 f_X1_18 (by decide) kf_7_1 dX1_push_28 ?_
    refine sw_ic 1 dX1_push_31 ?_
    refine sw_ins (pc2 := 32) rfl rfl ?_
    refine sw_iadd dX1_push_32 ?_
    refine sx_putI fp_X1_18 (by decide) kf_7_1 dX1_push_33 ?_
    exact sw_return rfl dX1_push_36), ok, rfl, ?_, ?_, ?_⟩
  · rw [d2_eq]
    unfold psN
    rw [if_pos hlt]
    exact nI_1 n
  · intro i hi
    unfold psN at hi
    rw [if_pos hlt] at hi
    unfold psH
    rw [if_pos hlt]
    have hi6 : i < 6 := by omega
    have hsi := ok.1 i hi6
    have hsr2 : 9 ≤ sv r i ∧ sv r i ≤ 39 := hsi.2.2
    by_cases c : i = n
    · subst c
      rw [if_pos rfl, cV_keep (d := d1) (fun c hc => d2_off _ _ (by omega)), g2]
    · rw [if_neg c, cV_keep (d := d1) (fun c hc => d2_off _ _ (by omega))]
      have ap := isB_apart hsi.2.1 hs.2.1 (fun q => c (ok.2 _ _ hi6 hlt q))
      exact cV_keep (fun c hc => g3 c (by omega) (by omega) (by omega) (by omega) (by omega))
  · intro c hc
    rw [d2_off _ _ (by omega), g3 c (by omega) (by omega) (by omega) (by omega) (by omega)]
set_option maxRecDepth 100000 in
set_option maxHeartbeats 4000000 in
theorem A1_X1_push {d : Nat → Nat → Int32} {r : Nat → Nat → Option Nat} {J : Nat → Nat → Int64} (ok : okS r) (hn : d 7 1 = nI 6) : ∃ d1 r1, OP kX1_push yX1_push 3 [.ref 7, .ref 1] d r J none d1 r1 J ∧ okS r1 ∧ r1 50 = r 50 ∧ d1 7 1 = nI (psN 6) ∧ (∀ i, i < psN 6 → cV d1 (sv r1 i) = psH (fun i => cV d (sv r i)) 6 (cV d 1) i) ∧ ∀ c, c < 7 ∨ 45 ≤ c → d1 c = d c := by
  obtain ⟨r1, q1, q2, q3⟩ := A0_X1_dropOldest (J := J) ok hn
  obtain ⟨ok1, q4, q5⟩ := okS_rot ok q2
  have hs := ok.1 0 (by decide)
  have hsr : 9 ≤ sv r 0 ∧ sv r 0 ≤ 39 := hs.2.2
  obtain ⟨d1, g1, g2, g3⟩ := A_X2_copy (d := d2 d 7 1 (nI 5)) (r := r1) (J := J) hs.2.1 isB_1 (by omega)
  have e7 : d1 7 1 = nI 5 := by rw [g3 7 (by omega) (by omega) (by omega) (by omega) (by omega)]; exact d2_eq _ _ _ _
  refine ⟨d2 d1 7 1 (nI 6), r1, op_of pl_X1_push (Nat.le_of_ble_eq_true rfl) (by
    refine sw_aload_n (i := 0) dX1_push_0 rfl rfl ?_
    refine sx_getIE (nI 6) hn f_X1_18 (by decide) kf_7_1 dX1_push_1 ?_
    refine sw_bi 6 dX1_push_4 (by decide +kernel) ?_
    refine sw_ic_lt (tgt := 13) dX1_push_6 rfl (fun h9 => absurd h9 (by decide)) (fun _ => ?_)
    refine sw_aload_n (i := 0) dX1_push_9 rfl rfl ?_
    refine px_Vv mv_X1_22 q1 rfl rfl (Nat.le_of_ble_eq_true rfl) (Nat.le_of_ble_eq_true rfl) ko_7 (Nat.le_of_ble_eq_true rfl) dX1_push_10 ?_
    refine sw_aload_n (i := 1) dX1_push_13 rfl rfl ?_
    refine sw_ins (pc2 := 14) rfl rfl ?_
    refine sw_aload_n (i := 0) dX1_push_14 rfl rfl ?_
    refine sx_getR (q := 8) f_X1_11 (by decide) kr_7_0 dX1_push_15 ?_
    refine sw_aload_n (i := 0) dX1_push_18 rfl rfl ?_
    refine sx_getIE (nI 5) (d2_eq _ _ _ _) f_X1_18 (by decide) kf_7_1 dX1_push_19 ?_
    refine sx_aald (q := (sv r 0)) (5) rfl rfl (by omega) (by rw [q2 5 (by decide)]; rfl) dX1_push_22 ?_
    refine px_Sv ms_X1_25 g1 rfl rfl (Nat.le_of_ble_eq_true rfl) (Nat.le_of_ble_eq_true rfl) (Nat.le_of_ble_eq_true rfl) dX1_push_23 ?_
    refine sw_aload_n (i := 0) dX1_push_26 rfl rfl ?_
    refine sw_dup dX1_push_27 rfl ?_
    refine sw_ins (pc2 := 28) rfl rfl ?_
    refine sx_getIE (nI 5) e7 f_X1_18 (by decide) kf_7_1 dX1_push_28 ?_
    refine sw_ic 1 dX1_push_31 ?_
    refine sw_iadd dX1_push_32 ?_
    refine sw_topE (v := nI 6) (by decide) ?_
    refine sx_putI fp_X1_18 (by decide) kf_7_1 dX1_push_33 ?_
    exact sw_return rfl dX1_push_36), ok1, q3 50 (by decide), ?_, ?_, ?_⟩
  · exact d2_eq _ _ _ _
  · intro i hi
    have hi6 : i < 6 := hi
    unfold psH
    rw [if_neg (by decide)]
    by_cases c : i = 5
    · subst c
      rw [if_pos rfl, q5, cV_keep (d := d1) (fun c hc => d2_off _ _ (by omega)), g2]
      exact cV_keep (fun c hc => d2_off _ _ (by omega))
    · rw [if_neg c, q4 i (by omega)]
      have hsi := ok.1 (i + 1) (by omega)
      have hsr2 : 9 ≤ sv r (i + 1) ∧ sv r (i + 1) ≤ 39 := hsi.2.2
      have ap := isB_apart hsi.2.1 hs.2.1 (fun q => absurd (ok.2 _ _ (by omega) (by omega) q) (by omega))
      rw [cV_keep (d := d1) (fun c hc => d2_off _ _ (by omega)), cV_keep (d := d2 d 7 1 (nI 5)) (fun c hc => g3 c (by omega) (by omega) (by omega) (by omega) (by omega))]
      exact cV_keep (fun c hc => d2_off _ _ (by omega))
  · intro c hc
    rw [d2_off _ _ (by omega), g3 c (by omega) (by omega) (by omega) (by omega) (by omega), d2_off _ _ (by omega)]
set_option maxRecDepth 100000 in
set_option maxHeartbeats 4000000 in
theorem A_X1_push {d : Nat → Nat → Int32} {r : Nat → Nat → Option Nat} {J : Nat → Nat → Int64} {n : Nat} (ok : okS r) (hle : n ≤ 6) (hn : d 7 1 = nI n) : ∃ d1 r1, OP kX1_push yX1_push 3 [.ref 7, .ref 1] d r J none d1 r1 J ∧ okS r1 ∧ r1 50 = r 50 ∧ d1 7 1 = nI (psN n) ∧ (∀ i, i < psN n → cV d1 (sv r1 i) = psH (fun i => cV d (sv r i)) n (cV d 1) i) ∧ ∀ c, c < 7 ∨ 45 ≤ c → d1 c = d c := by
  by_cases hlt : n < 6
  · exact A0_X1_push ok hlt hn
  · have e6 : n = 6 := by omega
    subst e6
    exact A1_X1_push ok hn
