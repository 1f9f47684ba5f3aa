/-! THE CLASS'S CALLS, 1: storm, cross, trade, worth, set, promise, fulfil (own work, written by wip/tools) -/
def bI (b : Bool) : Int32 := if b = true then nI 1 else nI 0
def fm (d d1 : Nat → Nat → Int32) : Prop := ∀ c, 65 ≤ c → d1 c = d c
theorem fm_refl (d : Nat → Nat → Int32) : fm d d := fun _ _ => rfl
theorem fm_trans {a b c : Nat → Nat → Int32} (h : fm a b) (g : fm b c) : fm a c := fun x hx => (g x hx).trans (h x hx)
theorem fr1_fm {d d1 : Nat → Nat → Int32} (h : fr1 d d1) : fm d d1 := fun c hc => h c (by omega) (by omega) (by omega) (by omega)
/-- the class's cells hold a state: the view, the saved ones, the slots, the text -/
def RC (d : Nat → Nat → Int32) (r : Nat → Nat → Option Nat) (V : Nat → Int32) (n : Nat) (H S : Nat → Nat → Int32) (t : Nat → Bool) (T : Nat → Int32) (tl : Nat) : Prop :=
  okS r ∧ n ≤ 6 ∧ (r 50 0 = some 53 ∧ r 50 1 = some 59) ∧ cV d 1 = V ∧ d 7 1 = nI n ∧ (∀ i, i < n → cV d (sv r i) = H i) ∧ ((t 0 = true → cV d 53 = S 0) ∧ (t 1 = true → cV d 59 = S 1)) ∧ (d 51 0 = bI (t 0) ∧ d 51 1 = bI (t 1)) ∧ d 48 1 = nI tl ∧ d 49 = T
def IV (V : Nat → Int32) (n : Nat) (H S : Nat → Nat → Int32) (t : Nat → Bool) (T : Nat → Int32) (tl : Nat) : Prop :=
  okV V ∧ (∀ i, i < n → okV (H i)) ∧ ((t 0 = true → okV (S 0)) ∧ (t 1 = true → okV (S 1))) ∧ True
section RCS
variable {d : Nat → Nat → Int32} {r : Nat → Nat → Option Nat} {J : Nat → Nat → Int64} {V : Nat → Int32} {n : Nat} {H S : Nat → Nat → Int32} {t : Nat → Bool} {T : Nat → Int32} {tl : Nat}
theorem rc6 (h : RC d r V n H S t T tl) : n ≤ 6 := h.2.1
theorem rcV (h : RC d r V n H S t T tl) : cV d 1 = V := h.2.2.2.1
theorem rcN (h : RC d r V n H S t T tl) : d 7 1 = nI n := h.2.2.2.2.1
theorem rcH (h : RC d r V n H S t T tl) : ∀ i, i < n → cV d (sv r i) = H i := h.2.2.2.2.2.1
theorem rcS0 (h : RC d r V n H S t T tl) : t 0 = true → cV d 53 = S 0 := h.2.2.2.2.2.2.1.1
theorem rcS1 (h : RC d r V n H S t T tl) : t 1 = true → cV d 59 = S 1 := h.2.2.2.2.2.2.1.2
theorem rcT0 (h : RC d r V n H S t T tl) : d 51 0 = bI (t 0) := h.2.2.2.2.2.2.2.1.1
theorem rcT1 (h : RC d r V n H S t T tl) : d 51 1 = bI (t 1) := h.2.2.2.2.2.2.2.1.2
theorem rcL (h : RC d r V n H S t T tl) : d 48 1 = nI tl := h.2.2.2.2.2.2.2.2.1
theorem rcT (h : RC d r V n H S t T tl) : d 49 = T := h.2.2.2.2.2.2.2.2.2
theorem rcM (h : RC d r V n H S t T tl) (iv : IV V n H S t T tl) : okMany (cV d 1) := by rw [rcV h]; exact iv.1.2.1
theorem rcP (h : RC d r V n H S t T tl) (iv : IV V n H S t T tl) : okPath (cV d 1) := by rw [rcV h]; exact iv.1.1
theorem rcO (h : RC d r V n H S t T tl) (iv : IV V n H S t T tl) : okV (cV d 1) := by rw [rcV h]; exact iv.1
theorem RC_isl {d1 : Nat → Nat → Int32} {V' : Nat → Int32} (h : RC d r V n H S t T tl) (f : fr1 d d1) (hV : cV d1 1 = V') : RC d1 r V' n H S t T tl := by
  have g : ∀ c, 7 ≤ c → c ≠ 46 → c ≠ 47 → c ≠ 52 → d1 c = d c := f
  have h6 := rc6 h
  refine ⟨h.1, h.2.1, h.2.2.1, hV, ?_, fun i hi => ?_, ⟨fun q => ?_, fun q => ?_⟩, ⟨?_, ?_⟩, ?_, ?_⟩
  · rw [g 7 (by omega) (by omega) (by omega) (by omega)]
    exact rcN h
  · have hs := (h.1.1 i (by omega)).2.2
    exact (cV_keep (fun c hc => g c (by omega) (by omega) (by omega) (by omega))).trans (rcH h i hi)
  · exact (cV_keep (fun c hc => g c (by omega) (by omega) (by omega) (by omega))).trans (rcS0 h q)
  · exact (cV_keep (fun c hc => g c (by omega) (by omega) (by omega) (by omega))).trans (rcS1 h q)
  · rw [g 51 (by omega) (by omega) (by omega) (by omega)]
    exact rcT0 h
  · rw [g 51 (by omega) (by omega) (by omega) (by omega)]
    exact rcT1 h
  · rw [g 48 (by omega) (by omega) (by omega) (by omega)]
    exact rcL h
  · rw [g 49 (by omega) (by omega) (by omega) (by omega)]
    exact rcT h
theorem psN_le {n : Nat} (h : n ≤ 6) : psN n ≤ 6 ∧ 1 ≤ psN n := by
  unfold psN
  by_cases c : n < 6
  · rw [if_pos c]; omega
  · rw [if_neg c]; omega
theorem psH_cong {H H' : Nat → Nat → Int32} {n i : Nat} {V : Nat → Int32} (h6 : n ≤ 6) (h : ∀ i, i < n → H' i = H i) (hi : i < psN n) : psH H' n V i = psH H n V i := by
  unfold psN at hi
  unfold psH
  by_cases c : n < 6
  · rw [if_pos c] at hi
    rw [if_pos c, if_pos c]
    by_cases e : i = n
    · rw [if_pos e, if_pos e]
    · rw [if_neg e, if_neg e, h i (by omega)]
  · rw [if_neg c] at hi
    rw [if_neg c, if_neg c]
    by_cases e : i = 5
    · rw [if_pos e, if_pos e]
    · rw [if_neg e, if_neg e, h (i + 1) (by omega)]
theorem C_push (h : RC d r V n H S t T tl) : ∃ d1 r1, OP kX1_push yX1_push 3 [.ref 7, .ref 1] d r J none d1 r1 J ∧ RC d1 r1 V (psN n) (psH H n V) S t T tl ∧ ∀ c, c < 7 ∨ 45 ≤ c → d1 c = d c := by
  obtain ⟨d1, r1, g1, g2, g3, g4, g5, g6⟩ := A_X1_push (d := d) (r := r) (J := J) (n := n) h.1 (rc6 h) (rcN h)
  refine ⟨d1, r1, g1, ⟨g2, (psN_le (rc6 h)).1, ?_, ?_, g4, fun i hi => ?_, ⟨fun q => ?_, fun q => ?_⟩, ⟨?_, ?_⟩, ?_, ?_⟩, g6⟩
  · rw [g3]; exact h.2.2.1
  · exact (cV_keep (fun c hc => g6 c (by omega))).trans (rcV h)
  · rw [g5 i hi, rcV h]
    exact psH_cong (rc6 h) (fun i hi => rcH h i hi) hi
  · exact (cV_keep (fun c hc => g6 c (by omega))).trans (rcS0 h q)
  · exact (cV_keep (fun c hc => g6 c (by omega))).trans (rcS1 h q)
  · rw [g6 51 (by omega)]; exact rcT0 h
  · rw [g6 51 (by omega)]; exact rcT1 h
  · rw [g6 48 (by omega)]; exact rcL h
  · rw [g6 49 (by omega)]; exact rcT h
end RCS
theorem i2c_q : ∀ q, q < 127 → ((nI q).toUInt32 % 65536).toInt32 = nI q := by decide +kernel
noncomputable def mkR (V : Nat → Int32) : Int32 := if nv V 1 < 8 then nI (nv V 1) else -1
noncomputable def mkV (V : Nat → Int32) (f t s dd : Int32) : Nat → Int32 := if nv V 1 < 8 then mkp V f t s dd else rfz V
def trd (V : Nat → Int32) (a c : Nat) (x : Int32) (b e : Nat) (y : Int32) : Nat → Int32 := if rsn V a c b e x y = 0 then upd (hnd (hnd V a b c x) b a e y) 2 (hnd (hnd V a b c x) b a e y 2 + nI 1) else rfz V

set_option maxRecDepth 100000 in
set_option maxHeartbeats 4000000 in
theorem C_storm {d : Nat → Nat → Int32} {r : Nat → Nat → Option Nat} {J : Nat → Nat → Int64} {V : Nat → Int32} {n : Nat} {H S : Nat → Nat → Int32} {t : Nat → Bool} {T : Nat → Int32} {tl : Nat} (h : RC d r V n H S t T tl) (iv : IV V n H S t T tl) (hd : ¬ nI 9999 ≤ V 0) : ∃ d1 r1, OP kX6_storm yX6_storm 6 [.ref 0] d r J (some (.int (nI (brk (stm V)).2))) d1 r1 J ∧ RC d1 r1 (brs (stm V)) (psN n) (psH H n V) S t T tl ∧ fm d d1 := by
  obtain ⟨d1, r1, g1, h1, f1⟩ := C_push (J := J) h
  have v1 : cV d1 1 = V := rcV h1
  have fp : fm d d1 := fun c hc => f1 c (by omega)
  have hc := A_X2_canStorm (d := d) (r := r) (J := J) (b := 1) isB_1
  rw [rcV h, show canS V = nI 1 from if_neg hd] at hc
  obtain ⟨e1, a1, b1, c1⟩ := A_X2_blow (d := d1) (r := r1) (J := J) (b := 1) isB_1 (by rw [v1]; exact iv.1.1) (by rw [v1]; exact iv.1.2.1)
  rw [v1] at a1 b1
  refine ⟨e1, r1, op_of pl_X6_storm (Nat.le_of_ble_eq_true rfl) ?_, RC_isl h1 (fun c q1 q2 q3 q4 => c1 c (by omega) (by omega) (by omega) (by omega)) b1, fm_trans fp (fun c hc => c1 c (by omega) (by omega) (by omega) (by omega))⟩
  refine sw_aload_n (i := 0) dX6_storm_0 rfl rfl ?_
  refine sx_getR (q := 1) f_X6_10 (by decide) kr_0_0 dX6_storm_1 ?_
  refine px_Vx mv_X6_49 hc rfl rfl (Nat.le_of_ble_eq_true rfl) (Nat.le_of_ble_eq_true rfl) ko_1 (Nat.le_of_ble_eq_true rfl) dX6_storm_4 ?_
  refine sw_if_ne (tgt := 20) dX6_storm_7 rfl (fun _ => ?_) (fun h9 => absurd h9 (by decide))
  refine sw_aload_n (i := 0) dX6_storm_20 rfl rfl ?_
  refine sx_getR (q := 7) f_X6_19 (by decide) kr_0_1 dX6_storm_21 ?_
  refine sw_aload_n (i := 0) dX6_storm_24 rfl rfl ?_
  refine sw_ins (pc2 := 25) rfl rfl ?_
  refine sx_getR (q := 1) f_X6_10 (by decide) kr_0_0 dX6_storm_25 ?_
  refine px_Vv mv_X6_60 g1 rfl rfl (Nat.le_of_ble_eq_true rfl) (Nat.le_of_ble_eq_true rfl) ko_7 (Nat.le_of_ble_eq_true rfl) dX6_storm_28 ?_
  refine sw_aload_n (i := 0) dX6_storm_31 rfl rfl ?_
  refine sx_getR (q := 1) f_X6_10 (by decide) kr_0_0 dX6_storm_32 ?_
  refine px_Vx mv_X6_64 a1 rfl rfl (Nat.le_of_ble_eq_true rfl) (Nat.le_of_ble_eq_true rfl) ko_1 (Nat.le_of_ble_eq_true rfl) dX6_storm_35 ?_
  exact sw_ireturn rfl dX6_storm_38
set_option maxRecDepth 100000 in
set_option maxHeartbeats 4000000 in
theorem C_cross {d : Nat → Nat → Int32} {r : Nat → Nat → Option Nat} {J : Nat → Nat → Int64} {V : Nat → Int32} {n : Nat} {H S : Nat → Nat → Int32} {t : Nat → Bool} {T : Nat → Int32} {tl : Nat} (h : RC d r V n H S t T tl) (iv : IV V n H S t T tl) {i o : Nat} (hi : i < 8) (ho : o < 8) : ∃ d1 r1, OP kX6_cross yX6_cross 7 [.ref 0, .int (nI i), .int (nI o)] d r J (some (.int (swp V i o (11 + i)))) d1 r1 J ∧ RC d1 r1 (swp V i o) (psN n) (psH H n V) S t T tl ∧ fm d d1 := by
  obtain ⟨d1, r1, g1, h1, f1⟩ := C_push (J := J) h
  have v1 : cV d1 1 = V := rcV h1
  have fp : fm d d1 := fun c hc => f1 c (by omega)
  obtain ⟨e1, a1, b1, c1⟩ := A_X2_swapPaths (d := d1) (r := r1) (J := J) (b := 1) (i := i) (o := o) isB_1 hi ho
  rw [v1] at b1
  have hl := A_X2_leadsTo (d := e1) (r := r1) (J := J) (b := 1) isB_1 hi
  rw [b1] at hl
  refine ⟨e1, r1, op_of pl_X6_cross (Nat.le_of_ble_eq_true rfl) ?_, RC_isl h1 (fun c q1 q2 q3 q4 => c1 c (by omega)) b1, fm_trans fp (fun c hc => c1 c (by omega))⟩
  refine sw_iload_n (i := 1) dX6_cross_0 rfl rfl ?_
  refine px_Sv ms_X6_68 (A_X6_needIslander hi) rfl rfl (Nat.le_of_ble_eq_true rfl) (Nat.le_of_ble_eq_true rfl) (Nat.le_of_ble_eq_true rfl) dX6_cross_1 ?_
  refine sw_iload_n (i := 2) dX6_cross_4 rfl rfl ?_
  refine px_Sv ms_X6_68 (A_X6_needIslander ho) rfl rfl (Nat.le_of_ble_eq_true rfl) (Nat.le_of_ble_eq_true rfl) (Nat.le_of_ble_eq_true rfl) dX6_cross_5 ?_
  refine sw_aload_n (i := 0) dX6_cross_8 rfl rfl ?_
  refine sx_getR (q := 7) f_X6_19 (by decide) kr_0_1 dX6_cross_9 ?_
  refine sw_aload_n (i := 0) dX6_cross_12 rfl rfl ?_
  refine sw_ins (pc2 := 13) rfl rfl ?_
  refine sx_getR (q := 1) f_X6_10 (by decide) kr_0_0 dX6_cross_13 ?_
  refine px_Vv mv_X6_60 g1 rfl rfl (Nat.le_of_ble_eq_true rfl) (Nat.le_of_ble_eq_true rfl) ko_7 (Nat.le_of_ble_eq_true rfl) dX6_cross_16 ?_
  refine sw_aload_n (i := 0) dX6_cross_19 rfl rfl ?_
  refine sx_getR (q := 1) f_X6_10 (by decide) kr_0_0 dX6_cross_20 ?_
  refine sw_iload_n (i := 1) dX6_cross_23 rfl rfl ?_
  refine sw_iload_n (i := 2) dX6_cross_24 rfl rfl ?_
  refine px_Vv mv_X6_72 a1 rfl rfl (Nat.le_of_ble_eq_true rfl) (Nat.le_of_ble_eq_true rfl) ko_1 (Nat.le_of_ble_eq_true rfl) dX6_cross_25 ?_
  refine sw_aload_n (i := 0) dX6_cross_28 rfl rfl ?_
  refine sw_ins (pc2 := 29) rfl rfl ?_
  refine sx_getR (q := 1) f_X6_10 (by decide) kr_0_0 dX6_cross_29 ?_
  refine sw_iload_n (i := 1) dX6_cross_32 rfl rfl ?_
  refine px_Vx mv_X6_76 hl rfl rfl (Nat.le_of_ble_eq_true rfl) (Nat.le_of_ble_eq_true rfl) ko_1 (Nat.le_of_ble_eq_true rfl) dX6_cross_33 ?_
  exact sw_ireturn rfl dX6_cross_36
set_option maxRecDepth 100000 in
set_option maxHeartbeats 4000000 in
theorem C_trade {d : Nat → Nat → Int32} {r : Nat → Nat → Option Nat} {J : Nat → Nat → Int64} {V : Nat → Int32} {n : Nat} {H S : Nat → Nat → Int32} {t : Nat → Bool} {T : Nat → Int32} {tl : Nat} (h : RC d r V n H S t T tl) (iv : IV V n H S t T tl) {a c b e x y : Nat} (ha : a < 8) (hc : c < 4) (hb : b < 8) (he : e < 4) (hne : ¬ nI a = nI b) (hx : x ≤ 99) (hy : y ≤ 99) : ∃ d1 r1, OP kX6_trade yX6_trade 7 [.ref 0, .int (nI a), .int (nI c), .int (nI x), .int (nI b), .int (nI e), .int (nI y)] d r J (some (.int (rsn V a c b e (nI x) (nI y)))) d1 r1 J ∧ RC d1 r1 (trd V a c (nI x) b e (nI y)) (psN n) (psH H n V) S t T tl ∧ fm d d1 := by
  obtain ⟨d1, r1, g1, h1, f1⟩ := C_push (J := J) h
  have v1 : cV d1 1 = V := rcV h1
  have fp : fm d d1 := fun c hc => f1 c (by omega)
  have hr := A_X6_reasonAgainst (d := d1) (r := r1) (J := J) (x := nI x) (y := nI y) ha hb hc he
  rw [v1] at hr
  unfold trd
  by_cases z : rsn V a c b e (nI x) (nI y) = 0
  · rw [if_pos z]
    obtain ⟨e1, a1, b1, c1⟩ := A_X2_hand (d := d1) (r := r1) (J := J) (b := 1) (f := a) (t := b) (c := c) (x := nI x) isB_1 ha hb hc
    obtain ⟨e2, a2, b2, c2⟩ := A_X2_hand (d := e1) (r := r1) (J := J) (b := 1) (f := b) (t := a) (c := e) (x := nI y) isB_1 hb ha he
    rw [v1] at b1
    rw [b1] at b2
    rw [z]
    rw [z] at hr
    refine ⟨d2 e2 1 8 (hnd (hnd V a b c (nI x)) b a e (nI y) 2 + nI 1), r1, op_of pl_X6_trade (Nat.le_of_ble_eq_true rfl) ?_, RC_isl h1 (fun q q1 q2 q3 q4 => by rw [d2_off _ _ (by omega), c2 q (by omega), c1 q (by omega)]) ?_, fm_trans fp (fun q hq => by rw [d2_off _ _ (by omega), c2 q (by omega), c1 q (by omega)])⟩
    ·
      refine sw_iload_n (i := 1) dX6_trade_0 rfl rfl ?_
      refine px_Sv ms_X6_68 (A_X6_needIslander ha) rfl rfl (Nat.le_of_ble_eq_true rfl) (Nat.le_of_ble_eq_true rfl) (Nat.le_of_ble_eq_true rfl) dX6_trade_1 ?_
      refine sw_iload_n (i := 2) dX6_trade_4 rfl rfl ?_
      refine px_Sv ms_X6_80 (A_X6_needColour hc) rfl rfl (Nat.le_of_ble_eq_true rfl) (Nat.le_of_ble_eq_true rfl) (Nat.le_of_ble_eq_true rfl) dX6_trade_5 ?_
      refine sw_iload (i := 4) dX6_trade_8 rfl ?_
      refine px_Sv ms_X6_68 (A_X6_needIslander hb) rfl rfl (Nat.le_of_ble_eq_true rfl) (Nat.le_of_ble_eq_true rfl) (Nat.le_of_ble_eq_true rfl) dX6_trade_10 ?_
      refine sw_iload (i := 5) dX6_trade_13 rfl ?_
      refine sw_ins (pc2 := 15) rfl rfl ?_
      refine px_Sv ms_X6_80 (A_X6_needColour he) rfl rfl (Nat.le_of_ble_eq_true rfl) (Nat.le_of_ble_eq_true rfl) (Nat.le_of_ble_eq_true rfl) dX6_trade_15 ?_
      refine sw_iload_n (i := 1) dX6_trade_18 rfl rfl ?_
      refine sw_iload (i := 4) dX6_trade_19 rfl ?_
      refine px_Sv ms_X6_83 (A_X6_needOthers (x := nI a) (y9 := nI b) hne) rfl rfl (Nat.le_of_ble_eq_true rfl) (Nat.le_of_ble_eq_true rfl) (Nat.le_of_ble_eq_true rfl) dX6_trade_21 ?_
      refine sw_iload_n (i := 3) dX6_trade_24 rfl rfl ?_
      refine sw_ic 0 dX6_trade_25 ?_
      refine sw_bi 99 dX6_trade_26 (by decide +kernel) ?_
      refine px_Sv ms_X6_86 (A_X6_needRange (lo := 0) (hi := 99) (Nat.zero_le _) hx (by decide)) rfl rfl (Nat.le_of_ble_eq_true rfl) (Nat.le_of_ble_eq_true rfl) (Nat.le_of_ble_eq_true rfl) dX6_trade_28 ?_
      refine sw_ins (pc2 := 31) rfl rfl ?_
      refine sw_iload (i := 6) dX6_trade_31 rfl ?_
      refine sw_ic 0 dX6_trade_33 ?_
      refine sw_bi 99 dX6_trade_34 (by decide +kernel) ?_
      refine px_Sv ms_X6_86 (A_X6_needRange (lo := 0) (hi := 99) (Nat.zero_le _) hy (by decide)) rfl rfl (Nat.le_of_ble_eq_true rfl) (Nat.le_of_ble_eq_true rfl) (Nat.le_of_ble_eq_true rfl) dX6_trade_36 ?_
      refine sw_aload_n (i := 0) dX6_trade_39 rfl rfl ?_
      refine sx_getR (q := 7) f_X6_19 (by decide) kr_0_1 dX6_trade_40 ?_
      refine sw_aload_n (i := 0) dX6_trade_43 rfl rfl ?_
      refine sx_getR (q := 1) f_X6_10 (by decide) kr_0_0 dX6_trade_44 ?_
      refine sw_ins (pc2 := 47) rfl rfl ?_
      refine px_Vv mv_X6_60 g1 rfl rfl (Nat.le_of_ble_eq_true rfl) (Nat.le_of_ble_eq_true rfl) ko_7 (Nat.le_of_ble_eq_true rfl) dX6_trade_47 ?_
      refine sw_aload_n (i := 0) dX6_trade_50 rfl rfl ?_
      refine sw_iload_n (i := 1) dX6_trade_51 rfl rfl ?_
      refine sw_iload_n (i := 2) dX6_trade_52 rfl rfl ?_
      refine sw_iload_n (i := 3) dX6_trade_53 rfl rfl ?_
      refine sw_iload (i := 4) dX6_trade_54 rfl ?_
      refine sw_iload (i := 5) dX6_trade_56 rfl ?_
      refine sw_iload (i := 6) dX6_trade_58 rfl ?_
      refine sw_ins (pc2 := 60) rfl rfl ?_
      refine px_Vx mv_X6_90 hr rfl rfl (Nat.le_of_ble_eq_true rfl) (Nat.le_of_ble_eq_true rfl) ko_0 (Nat.le_of_ble_eq_true rfl) dX6_trade_60 ?_
      refine sw_istore (i := 7) dX6_trade_63 (Nat.le_of_ble_eq_true rfl) rfl ?_
      refine sw_lo (lo2 := [some (.ref 0), some (.int _), some (.int _), some (.int _), some (.int _), some (.int _), some (.int _), some (.int _)]) rfl ?_
      refine sw_iload (i := 7) dX6_trade_65 rfl ?_
      refine sw_if_eq (tgt := 86) dX6_trade_67 rfl (fun _ => ?_) (fun h9 => absurd rfl h9)
      refine sw_aload_n (i := 0) dX6_trade_86 rfl rfl ?_
      refine sx_getR (q := 1) f_X6_10 (by decide) kr_0_0 dX6_trade_87 ?_
      refine sw_iload_n (i := 1) dX6_trade_90 rfl rfl ?_
      refine sw_iload (i := 4) dX6_trade_91 rfl ?_
      refine sw_ins (pc2 := 93) rfl rfl ?_
      refine sw_iload_n (i := 2) dX6_trade_93 rfl rfl ?_
      refine sw_iload_n (i := 3) dX6_trade_94 rfl rfl ?_
      refine px_Vv mv_X6_98 a1 rfl rfl (Nat.le_of_ble_eq_true rfl) (Nat.le_of_ble_eq_true rfl) ko_1 (Nat.le_of_ble_eq_true rfl) dX6_trade_95 ?_
      refine sw_aload_n (i := 0) dX6_trade_98 rfl rfl ?_
      refine sx_getR (q := 1) f_X6_10 (by decide) kr_0_0 dX6_trade_99 ?_
      refine sw_iload (i := 4) dX6_trade_102 rfl ?_
      refine sw_iload_n (i := 1) dX6_trade_104 rfl rfl ?_
      refine sw_iload (i := 5) dX6_trade_105 rfl ?_
      refine sw_ins (pc2 := 107) rfl rfl ?_
      refine sw_iload (i := 6) dX6_trade_107 rfl ?_
      refine px_Vv mv_X6_98 a2 rfl rfl (Nat.le_of_ble_eq_true rfl) (Nat.le_of_ble_eq_true rfl) ko_1 (Nat.le_of_ble_eq_true rfl) dX6_trade_109 ?_
      refine sw_aload_n (i := 0) dX6_trade_112 rfl rfl ?_
      refine sx_getR (q := 1) f_X6_10 (by decide) kr_0_0 dX6_trade_113 ?_
      refine sw_dup dX6_trade_116 rfl ?_
      refine sx_getIE ((hnd (hnd V a b c (nI x)) b a e (nI y)) 2) ((cV_trades e2 1).trans (congrFun b2 2)) f_X6_102 (by decide) kf_1_8 dX6_trade_117 ?_
      refine sw_ic 1 dX6_trade_120 ?_
      refine sw_iadd dX6_trade_121 ?_
      refine sw_ins (pc2 := 122) rfl rfl ?_
      refine sx_putI fp_X6_102 (by decide) kf_1_8 dX6_trade_122 ?_
      refine sw_ic 0 dX6_trade_125 ?_
      exact sw_ireturn rfl dX6_trade_126
    · rw [cV_d2f _ 1 _ (by decide) (by decide), b2]
      rfl
  · rw [if_neg z]
    refine ⟨d2 d1 1 11 (V 5 + nI 1), r1, op_of pl_X6_trade (Nat.le_of_ble_eq_true rfl) ?_, RC_isl h1 (fun q q1 q2 q3 q4 => d2_off _ _ (by omega)) ?_, fm_trans fp (fun q hq => d2_off _ _ (by omega))⟩
    ·
      refine sw_iload_n (i := 1) dX6_trade_0 rfl rfl ?_
      refine px_Sv ms_X6_68 (A_X6_needIslander ha) rfl rfl (Nat.le_of_ble_eq_true rfl) (Nat.le_of_ble_eq_true rfl) (Nat.le_of_ble_eq_true rfl) dX6_trade_1 ?_
      refine sw_iload_n (i := 2) dX6_trade_4 rfl rfl ?_
      refine px_Sv ms_X6_80 (A_X6_needColour hc) rfl rfl (Nat.le_of_ble_eq_true rfl) (Nat.le_of_ble_eq_true rfl) (Nat.le_of_ble_eq_true rfl) dX6_trade_5 ?_
      refine sw_iload (i := 4) dX6_trade_8 rfl ?_
      refine px_Sv ms_X6_68 (A_X6_needIslander hb) rfl rfl (Nat.le_of_ble_eq_true rfl) (Nat.le_of_ble_eq_true rfl) (Nat.le_of_ble_eq_true rfl) dX6_trade_10 ?_
      refine sw_iload (i := 5) dX6_trade_13 rfl ?_
      refine sw_ins (pc2 := 15) rfl rfl ?_
      refine px_Sv ms_X6_80 (A_X6_needColour he) rfl rfl (Nat.le_of_ble_eq_true rfl) (Nat.le_of_ble_eq_true rfl) (Nat.le_of_ble_eq_true rfl) dX6_trade_15 ?_
      refine sw_iload_n (i := 1) dX6_trade_18 rfl rfl ?_
      refine sw_iload (i := 4) dX6_trade_19 rfl ?_
      refine px_Sv ms_X6_83 (A_X6_needOthers (x := nI a) (y9 := nI b) hne) rfl rfl (Nat.le_of_ble_eq_true rfl) (Nat.le_of_ble_eq_true rfl) (Nat.le_of_ble_eq_true rfl) dX6_trade_21 ?_
      refine sw_iload_n (i := 3) dX6_trade_24 rfl rfl ?_
      refine sw_ic 0 dX6_trade_25 ?_
      refine sw_bi 99 dX6_trade_26 (by decide +kernel) ?_
      refine px_Sv ms_X6_86 (A_X6_needRange (lo := 0) (hi := 99) (Nat.zero_le _) hx (by decide)) rfl rfl (Nat.le_of_ble_eq_true rfl) (Nat.le_of_ble_eq_true rfl) (Nat.le_of_ble_eq_true rfl) dX6_trade_28 ?_
      refine sw_ins (pc2 := 31) rfl rfl ?_
      refine sw_iload (i := 6) dX6_trade_31 rfl ?_
      refine sw_ic 0 dX6_trade_33 ?_
      refine sw_bi 99 dX6_trade_34 (by decide +kernel) ?_
      refine px_Sv ms_X6_86 (A_X6_needRange (lo := 0) (hi := 99) (Nat.zero_le _) hy (by decide)) rfl rfl (Nat.le_of_ble_eq_true rfl) (Nat.le_of_ble_eq_true rfl) (Nat.le_of_ble_eq_true rfl) dX6_trade_36 ?_
      refine sw_aload_n (i := 0) dX6_trade_39 rfl rfl ?_
      refine sx_getR (q := 7) f_X6_19 (by decide) kr_0_1 dX6_trade_40 ?_
      refine sw_aload_n (i := 0) dX6_trade_43 rfl rfl ?_
      refine sx_getR (q := 1) f_X6_10 (by decide) kr_0_0 dX6_trade_44 ?_
      refine sw_ins (pc2 := 47) rfl rfl ?_
      refine px_Vv mv_X6_60 g1 rfl rfl (Nat.le_of_ble_eq_true rfl) (Nat.le_of_ble_eq_true rfl) ko_7 (Nat.le_of_ble_eq_true rfl) dX6_trade_47 ?_
      refine sw_aload_n (i := 0) dX6_trade_50 rfl rfl ?_
      refine sw_iload_n (i := 1) dX6_trade_51 rfl rfl ?_
      refine sw_iload_n (i := 2) dX6_trade_52 rfl rfl ?_
      refine sw_iload_n (i := 3) dX6_trade_53 rfl rfl ?_
      refine sw_iload (i := 4) dX6_trade_54 rfl ?_
      refine sw_iload (i := 5) dX6_trade_56 rfl ?_
      refine sw_iload (i := 6) dX6_trade_58 rfl ?_
      refine sw_ins (pc2 := 60) rfl rfl ?_
      refine px_Vx mv_X6_90 hr rfl rfl (Nat.le_of_ble_eq_true rfl) (Nat.le_of_ble_eq_true rfl) ko_0 (Nat.le_of_ble_eq_true rfl) dX6_trade_60 ?_
      refine sw_istore (i := 7) dX6_trade_63 (Nat.le_of_ble_eq_true rfl) rfl ?_
      refine sw_lo (lo2 := [some (.ref 0), some (.int _), some (.int _), some (.int _), some (.int _), some (.int _), some (.int _), some (.int _)]) rfl ?_
      refine sw_iload (i := 7) dX6_trade_65 rfl ?_
      refine sw_if_eq (tgt := 86) dX6_trade_67 rfl (fun h9 => absurd h9 z) (fun _ => ?_)
      refine sw_aload_n (i := 0) dX6_trade_70 rfl rfl ?_
      refine sx_getR (q := 1) f_X6_10 (by decide) kr_0_0 dX6_trade_71 ?_
      refine sw_dup dX6_trade_74 rfl ?_
      refine sx_getIE (V 5) ((cV_refused d1 1).trans (congrFun v1 5)) f_X6_94 (by decide) kf_1_11 dX6_trade_75 ?_
      refine sw_ins (pc2 := 78) rfl rfl ?_
      refine sw_ic 1 dX6_trade_78 ?_
      refine sw_iadd dX6_trade_79 ?_
      refine sx_putI fp_X6_94 (by decide) kf_1_11 dX6_trade_80 ?_
      refine sw_iload (i := 7) dX6_trade_83 rfl ?_
      exact sw_ireturn rfl dX6_trade_85
    · rw [cV_d2f _ 1 _ (by decide) (by decide), v1]
      rfl
set_option maxRecDepth 100000 in
set_option maxHeartbeats 4000000 in
theorem C_worth {d : Nat → Nat → Int32} {r : Nat → Nat → Option Nat} {J : Nat → Nat → Int64} {V : Nat → Int32} {n : Nat} {H S : Nat → Nat → Int32} {t : Nat → Bool} {T : Nat → Int32} {tl : Nat} (h : RC d r V n H S t T tl) (iv : IV V n H S t T tl) {c w : Nat} (hc : c < 4) (hw : 1 ≤ w) (hw9 : w ≤ 9) : ∃ d1 r1, OP kX6_worth yX6_worth 7 [.ref 0, .int (nI c), .int (nI w)] d r J (some (.int (V (7 + c)))) d1 r1 J ∧ RC d1 r1 (upd V (7 + c) (nI w)) (psN n) (psH H n V) S t T tl ∧ fm d d1 := by
  obtain ⟨d1, r1, g1, h1, f1⟩ := C_push (J := J) h
  have v1 : cV d1 1 = V := rcV h1
  have fp : fm d d1 := fun c hc => f1 c (by omega)
  have hw1 := A_X2_worthOf (d := d1) (r := r1) (J := J) (b := 1) isB_1 hc
  rw [v1] at hw1
  have hw2 : OP kX2_makeWorth yX2_makeWorth 1 [.ref 1, .int (nI c), .int (nI w)] d1 r1 J none (d2 d1 4 c (nI w)) r1 J := A_X2_makeWorth isB_1 hc
  refine ⟨d2 d1 4 c (nI w), r1, op_of pl_X6_worth (Nat.le_of_ble_eq_true rfl) ?_, RC_isl h1 (fun q q1 q2 q3 q4 => d2_off _ _ (by omega)) ?_, fm_trans fp (fun q hq => d2_off _ _ (by omega))⟩
  ·
    refine sw_iload_n (i := 1) dX6_worth_0 rfl rfl ?_
    refine px_Sv ms_X6_80 (A_X6_needColour hc) rfl rfl (Nat.le_of_ble_eq_true rfl) (Nat.le_of_ble_eq_true rfl) (Nat.le_of_ble_eq_true rfl) dX6_worth_1 ?_
    refine sw_iload_n (i := 2) dX6_worth_4 rfl rfl ?_
    refine sw_ic 1 dX6_worth_5 ?_
    refine sw_bi 9 dX6_worth_6 (by decide +kernel) ?_
    refine px_Sv ms_X6_86 (A_X6_needRange (lo := 1) (hi := 9) hw hw9 (by decide)) rfl rfl (Nat.le_of_ble_eq_true rfl) (Nat.le_of_ble_eq_true rfl) (Nat.le_of_ble_eq_true rfl) dX6_worth_8 ?_
    refine sw_aload_n (i := 0) dX6_worth_11 rfl rfl ?_
    refine sw_ins (pc2 := 12) rfl rfl ?_
    refine sx_getR (q := 7) f_X6_19 (by decide) kr_0_1 dX6_worth_12 ?_
    refine sw_aload_n (i := 0) dX6_worth_15 rfl rfl ?_
    refine sx_getR (q := 1) f_X6_10 (by decide) kr_0_0 dX6_worth_16 ?_
    refine px_Vv mv_X6_60 g1 rfl rfl (Nat.le_of_ble_eq_true rfl) (Nat.le_of_ble_eq_true rfl) ko_7 (Nat.le_of_ble_eq_true rfl) dX6_worth_19 ?_
    refine sw_aload_n (i := 0) dX6_worth_22 rfl rfl ?_
    refine sx_getR (q := 1) f_X6_10 (by decide) kr_0_0 dX6_worth_23 ?_
    refine sw_iload_n (i := 1) dX6_worth_26 rfl rfl ?_
    refine px_Vx mv_X6_105 hw1 rfl rfl (Nat.le_of_ble_eq_true rfl) (Nat.le_of_ble_eq_true rfl) ko_1 (Nat.le_of_ble_eq_true rfl) dX6_worth_27 ?_
    refine sw_ins (pc2 := 30) rfl rfl ?_
    refine sw_istore_n (i := 3) dX6_worth_30 rfl (Nat.le_of_ble_eq_true rfl) rfl ?_
    refine sw_lo (lo2 := [some (.ref 0), some (.int _), some (.int _), some (.int _)]) rfl ?_
    refine sw_aload_n (i := 0) dX6_worth_31 rfl rfl ?_
    refine sx_getR (q := 1) f_X6_10 (by decide) kr_0_0 dX6_worth_32 ?_
    refine sw_iload_n (i := 1) dX6_worth_35 rfl rfl ?_
    refine sw_iload_n (i := 2) dX6_worth_36 rfl rfl ?_
    refine px_Vv mv_X6_108 hw2 rfl rfl (Nat.le_of_ble_eq_true rfl) (Nat.le_of_ble_eq_true rfl) ko_1 (Nat.le_of_ble_eq_true rfl) dX6_worth_37 ?_
    refine sw_iload_n (i := 3) dX6_worth_40 rfl rfl ?_
    exact sw_ireturn rfl dX6_worth_41
  · exact (cV_d2worth d1 1 (nI w) hc).trans (by rw [v1])
set_option maxRecDepth 100000 in
set_option maxHeartbeats 4000000 in
theorem C_set {d : Nat → Nat → Int32} {r : Nat → Nat → Option Nat} {J : Nat → Nat → Int64} {V : Nat → Int32} {n : Nat} {H S : Nat → Nat → Int32} {t : Nat → Bool} {T : Nat → Int32} {tl : Nat} (h : RC d r V n H S t T tl) (iv : IV V n H S t T tl) {w : Nat} (hw9 : w ≤ 9) : ∃ d1 r1, OP kX6_set yX6_set 7 [.ref 0, .int (nI w)] d r J (some (.int (V 6))) d1 r1 J ∧ RC d1 r1 (upd V 6 (nI w)) (psN n) (psH H n V) S t T tl ∧ fm d d1 := by
  obtain ⟨d1, r1, g1, h1, f1⟩ := C_push (J := J) h
  have v1 : cV d1 1 = V := rcV h1
  have fp : fm d d1 := fun c hc => f1 c (by omega)
  refine ⟨d2 d1 1 7 (nI w), r1, op_of pl_X6_set (Nat.le_of_ble_eq_true rfl) ?_, RC_isl h1 (fun q q1 q2 q3 q4 => d2_off _ _ (by omega)) ?_, fm_trans fp (fun q hq => d2_off _ _ (by omega))⟩
  ·
    refine sw_iload_n (i := 1) dX6_set_0 rfl rfl ?_
    refine sw_ic 0 dX6_set_1 ?_
    refine sw_bi 9 dX6_set_2 (by decide +kernel) ?_
    refine px_Sv ms_X6_86 (A_X6_needRange (lo := 0) (hi := 9) (Nat.zero_le _) hw9 (by decide)) rfl rfl (Nat.le_of_ble_eq_true rfl) (Nat.le_of_ble_eq_true rfl) (Nat.le_of_ble_eq_true rfl) dX6_set_4 ?_
    refine sw_aload_n (i := 0) dX6_set_7 rfl rfl ?_
    refine sx_getR (q := 7) f_X6_19 (by decide) kr_0_1 dX6_set_8 ?_
    refine sw_aload_n (i := 0) dX6_set_11 rfl rfl ?_
    refine sw_ins (pc2 := 12) rfl rfl ?_
    refine sx_getR (q := 1) f_X6_10 (by decide) kr_0_0 dX6_set_12 ?_
    refine px_Vv mv_X6_60 g1 rfl rfl (Nat.le_of_ble_eq_true rfl) (Nat.le_of_ble_eq_true rfl) ko_7 (Nat.le_of_ble_eq_true rfl) dX6_set_15 ?_
    refine sw_aload_n (i := 0) dX6_set_18 rfl rfl ?_
    refine sx_getR (q := 1) f_X6_10 (by decide) kr_0_0 dX6_set_19 ?_
    refine sx_getIE (V 6) ((cV_unfair d1 1).trans (congrFun v1 6)) f_X6_111 (by decide) kf_1_7 dX6_set_22 ?_
    refine sw_istore_n (i := 2) dX6_set_25 rfl (Nat.le_of_ble_eq_true rfl) rfl ?_
    refine sw_lo (lo2 := [some (.ref 0), some (.int _), some (.int _)]) rfl ?_
    refine sw_aload_n (i := 0) dX6_set_26 rfl rfl ?_
    refine sx_getR (q := 1) f_X6_10 (by decide) kr_0_0 dX6_set_27 ?_
    refine sw_ins (pc2 := 30) rfl rfl ?_
    refine sw_iload_n (i := 1) dX6_set_30 rfl rfl ?_
    refine sx_putI fp_X6_111 (by decide) kf_1_7 dX6_set_31 ?_
    refine sw_iload_n (i := 2) dX6_set_34 rfl rfl ?_
    exact sw_ireturn rfl dX6_set_35
  · rw [cV_d2f _ 1 _ (by decide) (by decide), v1]
    rfl
set_option maxRecDepth 100000 in
set_option maxHeartbeats 4000000 in
theorem C_promise {d : Nat → Nat → Int32} {r : Nat → Nat → Option Nat} {J : Nat → Nat → Int64} {V : Nat → Int32} {n : Nat} {H S : Nat → Nat → Int32} {t : Nat → Bool} {T : Nat → Int32} {tl : Nat} (h : RC d r V n H S t T tl) (iv : IV V n H S t T tl) {a b s y : Nat} (ha : a < 8) (hb : b < 8) (hne : ¬ nI a = nI b) (hs : 1 ≤ s) (hs9 : s ≤ 99) (hy : y ≤ 9) : ∃ d1 r1, OP kX6_promise yX6_promise 7 [.ref 0, .int (nI a), .int (nI b), .int (nI s), .int (nI y)] d r J (some (.int (mkR V))) d1 r1 J ∧ RC d1 r1 (mkV V (nI a) (nI b) (nI s) (nI y)) (psN n) (psH H n V) S t T tl ∧ fm d d1 := by
  obtain ⟨d1, r1, g1, h1, f1⟩ := C_push (J := J) h
  have v1 : cV d1 1 = V := rcV h1
  have fp : fm d d1 := fun c hc => f1 c (by omega)
  have m1 : okMany (cV d1 1) := by rw [v1]; exact iv.1.2.1
  unfold mkR mkV
  by_cases z : nv V 1 < 8
  · rw [if_pos z, if_pos z]
    obtain ⟨e1, a1, b1, c1⟩ := A_X2_makePromise (d := d1) (r := r1) (J := J) (b := 1) (f := nI a) (t := nI b) (s := nI s) (dd := nI y) isB_1 m1 (by rw [v1]; exact z)
    rw [v1] at a1 b1
    refine ⟨e1, r1, op_of pl_X6_promise (Nat.le_of_ble_eq_true rfl) ?_, RC_isl h1 (fun c q1 q2 q3 q4 => c1 c (by omega) (by omega)) b1, fm_trans fp (fun c hc => c1 c (by omega) (by omega))⟩
    refine sw_iload_n (i := 1) dX6_promise_0 rfl rfl ?_
    refine px_Sv ms_X6_68 (A_X6_needIslander ha) rfl rfl (Nat.le_of_ble_eq_true rfl) (Nat.le_of_ble_eq_true rfl) (Nat.le_of_ble_eq_true rfl) dX6_promise_1 ?_
    refine sw_iload_n (i := 2) dX6_promise_4 rfl rfl ?_
    refine px_Sv ms_X6_68 (A_X6_needIslander hb) rfl rfl (Nat.le_of_ble_eq_true rfl) (Nat.le_of_ble_eq_true rfl) (Nat.le_of_ble_eq_true rfl) dX6_promise_5 ?_
    refine sw_iload_n (i := 1) dX6_promise_8 rfl rfl ?_
    refine sw_iload_n (i := 2) dX6_promise_9 rfl rfl ?_
    refine px_Sv ms_X6_83 (A_X6_needOthers (x := nI a) (y9 := nI b) hne) rfl rfl (Nat.le_of_ble_eq_true rfl) (Nat.le_of_ble_eq_true rfl) (Nat.le_of_ble_eq_true rfl) dX6_promise_10 ?_
    refine sw_ins (pc2 := 13) rfl rfl ?_
    refine sw_iload_n (i := 3) dX6_promise_13 rfl rfl ?_
    refine sw_ic 1 dX6_promise_14 ?_
    refine sw_bi 99 dX6_promise_15 (by decide +kernel) ?_
    refine px_Sv ms_X6_86 (A_X6_needRange (lo := 1) (hi := 99) hs hs9 (by decide)) rfl rfl (Nat.le_of_ble_eq_true rfl) (Nat.le_of_ble_eq_true rfl) (Nat.le_of_ble_eq_true rfl) dX6_promise_17 ?_
    refine sw_iload (i := 4) dX6_promise_20 rfl ?_
    refine sw_ic 0 dX6_promise_22 ?_
    refine sw_bi 9 dX6_promise_23 (by decide +kernel) ?_
    refine px_Sv ms_X6_86 (A_X6_needRange (lo := 0) (hi := 9) (Nat.zero_le _) hy (by decide)) rfl rfl (Nat.le_of_ble_eq_true rfl) (Nat.le_of_ble_eq_true rfl) (Nat.le_of_ble_eq_true rfl) dX6_promise_25 ?_
    refine sw_ins (pc2 := 28) rfl rfl ?_
    refine sw_aload_n (i := 0) dX6_promise_28 rfl rfl ?_
    refine sx_getR (q := 7) f_X6_19 (by decide) kr_0_1 dX6_promise_29 ?_
    refine sw_aload_n (i := 0) dX6_promise_32 rfl rfl ?_
    refine sx_getR (q := 1) f_X6_10 (by decide) kr_0_0 dX6_promise_33 ?_
    refine px_Vv mv_X6_60 g1 rfl rfl (Nat.le_of_ble_eq_true rfl) (Nat.le_of_ble_eq_true rfl) ko_7 (Nat.le_of_ble_eq_true rfl) dX6_promise_36 ?_
    refine sw_aload_n (i := 0) dX6_promise_39 rfl rfl ?_
    refine sx_getR (q := 1) f_X6_10 (by decide) kr_0_0 dX6_promise_40 ?_
    refine sw_iload_n (i := 1) dX6_promise_43 rfl rfl ?_
    refine sw_ins (pc2 := 44) rfl rfl ?_
    refine sw_iload_n (i := 2) dX6_promise_44 rfl rfl ?_
    refine sw_iload_n (i := 3) dX6_promise_45 rfl rfl ?_
    refine sw_iload (i := 4) dX6_promise_46 rfl ?_
    refine px_Vx mv_X6_114 a1 rfl rfl (Nat.le_of_ble_eq_true rfl) (Nat.le_of_ble_eq_true rfl) ko_1 (Nat.le_of_ble_eq_true rfl) dX6_promise_48 ?_
    exact sw_ireturn rfl dX6_promise_51
  · rw [if_neg z, if_neg z]
    obtain ⟨e1, a1, b1, c1⟩ := A_X2_makePromise_full (d := d1) (r := r1) (J := J) (b := 1) (f := nI a) (t := nI b) (s := nI s) (dd := nI y) isB_1 m1 (by rw [v1]; omega)
    rw [v1] at b1
    refine ⟨e1, r1, op_of pl_X6_promise (Nat.le_of_ble_eq_true rfl) ?_, RC_isl h1 (fun c q1 q2 q3 q4 => c1 c (by omega)) b1, fm_trans fp (fun c hc => c1 c (by omega))⟩
    refine sw_iload_n (i := 1) dX6_promise_0 rfl rfl ?_
    refine px_Sv ms_X6_68 (A_X6_needIslander ha) rfl rfl (Nat.le_of_ble_eq_true rfl) (Nat.le_of_ble_eq_true rfl) (Nat.le_of_ble_eq_true rfl) dX6_promise_1 ?_
    refine sw_iload_n (i := 2) dX6_promise_4 rfl rfl ?_
    refine px_Sv ms_X6_68 (A_X6_needIslander hb) rfl rfl (Nat.le_of_ble_eq_true rfl) (Nat.le_of_ble_eq_true rfl) (Nat.le_of_ble_eq_true rfl) dX6_promise_5 ?_
    refine sw_iload_n (i := 1) dX6_promise_8 rfl rfl ?_
    refine sw_iload_n (i := 2) dX6_promise_9 rfl rfl ?_
    refine px_Sv ms_X6_83 (A_X6_needOthers (x := nI a) (y9 := nI b) hne) rfl rfl (Nat.le_of_ble_eq_true rfl) (Nat.le_of_ble_eq_true rfl) (Nat.le_of_ble_eq_true rfl) dX6_promise_10 ?_
    refine sw_ins (pc2 := 13) rfl rfl ?_
    refine sw_iload_n (i := 3) dX6_promise_13 rfl rfl ?_
    refine sw_ic 1 dX6_promise_14 ?_
    refine sw_bi 99 dX6_promise_15 (by decide +kernel) ?_
    refine px_Sv ms_X6_86 (A_X6_needRange (lo := 1) (hi := 99) hs hs9 (by decide)) rfl rfl (Nat.le_of_ble_eq_true rfl) (Nat.le_of_ble_eq_true rfl) (Nat.le_of_ble_eq_true rfl) dX6_promise_17 ?_
    refine sw_iload (i := 4) dX6_promise_20 rfl ?_
    refine sw_ic 0 dX6_promise_22 ?_
    refine sw_bi 9 dX6_promise_23 (by decide +kernel) ?_
    refine px_Sv ms_X6_86 (A_X6_needRange (lo := 0) (hi := 9) (Nat.zero_le _) hy (by decide)) rfl rfl (Nat.le_of_ble_eq_true rfl) (Nat.le_of_ble_eq_true rfl) (Nat.le_of_ble_eq_true rfl) dX6_promise_25 ?_
    refine sw_ins (pc2 := 28) rfl rfl ?_
    refine sw_aload_n (i := 0) dX6_promise_28 rfl rfl ?_
    refine sx_getR (q := 7) f_X6_19 (by decide) kr_0_1 dX6_promise_29 ?_
    refine sw_aload_n (i := 0) dX6_promise_32 rfl rfl ?_
    refine sx_getR (q := 1) f_X6_10 (by decide) kr_0_0 dX6_promise_33 ?_
    refine px_Vv mv_X6_60 g1 rfl rfl (Nat.le_of_ble_eq_true rfl) (Nat.le_of_ble_eq_true rfl) ko_7 (Nat.le_of_ble_eq_true rfl) dX6_promise_36 ?_
    refine sw_aload_n (i := 0) dX6_promise_39 rfl rfl ?_
    refine sx_getR (q := 1) f_X6_10 (by decide) kr_0_0 dX6_promise_40 ?_
    refine sw_iload_n (i := 1) dX6_promise_43 rfl rfl ?_
    refine sw_ins (pc2 := 44) rfl rfl ?_
    refine sw_iload_n (i := 2) dX6_promise_44 rfl rfl ?_
    refine sw_iload_n (i := 3) dX6_promise_45 rfl rfl ?_
    refine sw_iload (i := 4) dX6_promise_46 rfl ?_
    refine px_Vx mv_X6_114 a1 rfl rfl (Nat.le_of_ble_eq_true rfl) (Nat.le_of_ble_eq_true rfl) ko_1 (Nat.le_of_ble_eq_true rfl) dX6_promise_48 ?_
    exact sw_ireturn rfl dX6_promise_51
set_option maxRecDepth 100000 in
set_option maxHeartbeats 4000000 in
theorem C_fulfil {d : Nat → Nat → Int32} {r : Nat → Nat → Option Nat} {J : Nat → Nat → Int64} {V : Nat → Int32} {n : Nat} {H S : Nat → Nat → Int32} {t : Nat → Bool} {T : Nat → Int32} {tl : Nat} (h : RC d r V n H S t T tl) (iv : IV V n H S t T tl) {q : Nat} (hq : q < nv V 1) : ∃ d1 r1, OP kX6_fulfil yX6_fulfil 7 [.ref 0, .int (nI q)] d r J (some (.int (enc (wy V (prt V q 0) (prt V q 2))))) d1 r1 J ∧ RC d1 r1 (kpV V q (wy V (prt V q 0) (prt V q 2))) (psN n) (psH H n V) S t T tl ∧ fm d d1 := by
  obtain ⟨d1, r1, g1, h1, f1⟩ := C_push (J := J) h
  have v1 : cV d1 1 = V := rcV h1
  have fp : fm d d1 := fun c hc => f1 c (by omega)
  obtain ⟨e1, a1, b1, c1⟩ := A_X6_keepPromise (d := d1) (r := r1) (J := J) (q := q) (by rw [v1]; exact iv.1) (by rw [v1]; exact hq)
  rw [v1] at a1 b1
  refine ⟨e1, r1, op_of pl_X6_fulfil (Nat.le_of_ble_eq_true rfl) ?_, RC_isl h1 c1 b1, fm_trans fp (fr1_fm c1)⟩
  refine sw_aload_n (i := 0) dX6_fulfil_0 rfl rfl ?_
  refine sw_iload_n (i := 1) dX6_fulfil_1 rfl rfl ?_
  refine px_Vv mv_X6_118 (A_X6_needPromise (rcM h iv) (by rw [rcV h]; exact hq)) rfl rfl (Nat.le_of_ble_eq_true rfl) (Nat.le_of_ble_eq_true rfl) ko_0 (Nat.le_of_ble_eq_true rfl) dX6_fulfil_2 ?_
  refine sw_aload_n (i := 0) dX6_fulfil_5 rfl rfl ?_
  refine sx_getR (q := 7) f_X6_19 (by decide) kr_0_1 dX6_fulfil_6 ?_
  refine sw_aload_n (i := 0) dX6_fulfil_9 rfl rfl ?_
  refine sx_getR (q := 1) f_X6_10 (by decide) kr_0_0 dX6_fulfil_10 ?_
  refine sw_ins (pc2 := 13) rfl rfl ?_
  refine px_Vv mv_X6_60 g1 rfl rfl (Nat.le_of_ble_eq_true rfl) (Nat.le_of_ble_eq_true rfl) ko_7 (Nat.le_of_ble_eq_true rfl) dX6_fulfil_13 ?_
  refine sw_aload_n (i := 0) dX6_fulfil_16 rfl rfl ?_
  refine sw_iload_n (i := 1) dX6_fulfil_17 rfl rfl ?_
  refine px_Vx mv_X6_121 a1 rfl rfl (Nat.le_of_ble_eq_true rfl) (Nat.le_of_ble_eq_true rfl) ko_0 (Nat.le_of_ble_eq_true rfl) dX6_fulfil_18 ?_
  exact sw_ireturn rfl dX6_fulfil_21
