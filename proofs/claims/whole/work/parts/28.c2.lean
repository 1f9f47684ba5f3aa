/-! THE CLASS'S CALLS, 2: append, clearBuffer, firstError, run, keep, goBack, undo (own work, written by wip/tools) -/
theorem ko_53 : kO 53 1 := kO_B isB_53
theorem ko_59 : kO 59 1 := kO_B isB_59
section RCS2
variable {d : Nat → Nat → Int32} {r : Nat → Nat → Option Nat} {J : Nat → Nat → Int64} {V : Nat → Int32} {n : Nat} {H S : Nat → Nat → Int32} {t : Nat → Bool} {T : Nat → Int32} {tl : Nat}
theorem RC_text {d1 : Nat → Nat → Int32} {T' : Nat → Int32} {k : Nat} (h : RC d r V n H S t T tl) (f : ∀ c, c ≠ 48 → c ≠ 49 → d1 c = d c) (h1 : d1 48 1 = nI k) (h2 : d1 49 = T') : RC d1 r V n H S t T' k := by
  have h6 := rc6 h
  refine ⟨h.1, h.2.1, h.2.2.1, ?_, ?_, fun i hi => ?_, ⟨fun q => ?_, fun q => ?_⟩, ⟨?_, ?_⟩, h1, h2⟩
  · exact (cV_keep (fun c hc => f c (by omega) (by omega))).trans (rcV h)
  · rw [f 7 (by omega) (by omega)]
    exact rcN h
  · have hs := (h.1.1 i (by omega)).2.2
    exact (cV_keep (fun c hc => f c (by omega) (by omega))).trans (rcH h i hi)
  · exact (cV_keep (fun c hc => f c (by omega) (by omega))).trans (rcS0 h q)
  · exact (cV_keep (fun c hc => f c (by omega) (by omega))).trans (rcS1 h q)
  · rw [f 51 (by omega) (by omega)]
    exact rcT0 h
  · rw [f 51 (by omega) (by omega)]
    exact rcT1 h
theorem RC_len {k : Nat} (h : RC d r V n H S t T tl) : RC (d2 d 48 1 (nI k)) r V n H S t T k := RC_text h (fun c h1 h2 => d2_off _ _ h1) (d2_eq _ _ _ _) ((d2_off _ _ (by decide)).trans (rcT h))
def sS (S : Nat → Nat → Int32) (s : Nat) (V : Nat → Int32) (i : Nat) : Nat → Int32 := if i = s then V else S i
def sT (t : Nat → Bool) (s : Nat) (i : Nat) : Bool := if i = s then true else t i
theorem RC_slot {d1 : Nat → Nat → Int32} {s : Nat} (hs : s < 2) (h : RC d r V n H S t T tl) (f : ∀ c, c < 51 → d1 c = d c) (hx : ∀ i, i < 2 → i ≠ s → cV d1 (53 + 6 * i) = cV d (53 + 6 * i) ∧ d1 51 i = d 51 i) (hy : cV d1 (53 + 6 * s) = V) (hz : d1 51 s = nI 1) : RC d1 r V n H (sS S s V) (sT t s) T tl := by
  have h6 := rc6 h
  refine ⟨h.1, h.2.1, h.2.2.1, ?_, ?_, fun i hi => ?_, ⟨fun q => ?_, fun q => ?_⟩, ⟨?_, ?_⟩, ?_, ?_⟩
  · exact (cV_keep (fun c hc => f c (by omega))).trans (rcV h)
  · rw [f 7 (by omega)]
    exact rcN h
  · have hs := (h.1.1 i (by omega)).2.2
    exact (cV_keep (fun c hc => f c (by omega))).trans (rcH h i hi)
  · unfold sS
    by_cases e : 0 = s
    · rw [if_pos e]
      subst e
      exact hy
    · rw [if_neg e]
      unfold sT at q
      rw [if_neg e] at q
      exact (hx 0 (by decide) e).1.trans (rcS0 h q)
  · unfold sS
    by_cases e : 1 = s
    · rw [if_pos e]
      subst e
      exact hy
    · rw [if_neg e]
      unfold sT at q
      rw [if_neg e] at q
      exact (hx 1 (by decide) e).1.trans (rcS1 h q)
  · unfold sT
    by_cases e : 0 = s
    · rw [if_pos e]
      subst e
      exact hz
    · rw [if_neg e, (hx 0 (by decide) e).2]
      exact rcT0 h
  · unfold sT
    by_cases e : 1 = s
    · rw [if_pos e]
      subst e
      exact hz
    · rw [if_neg e, (hx 1 (by decide) e).2]
      exact rcT1 h
  · rw [f 48 (by omega)]
    exact rcL h
  · rw [f 49 (by omega)]
    exact rcT h
end RCS2
theorem nxG_le (f : Nat → Int32) (L : Nat) : ∀ k b, b ≤ nxG f L k b ∧ nxG f L k b ≤ b + k
  | 0, b => ⟨Nat.le_refl _, Nat.le_refl _⟩
  | k + 1, b => by
    have ih := nxG_le f L k (b + 1)
    unfold nxG
    by_cases c : sg f L b = 59
    · rw [if_pos c]
      omega
    · rw [if_neg c]
      omega
theorem doB_01 (V f : Nat → Int32) (L a : Nat) : doB V f L a = nI 0 ∨ doB V f L a = nI 1 := by
  unfold doB
  by_cases c1 : sg f L a = 115
  · rw [if_pos c1]
    unfold canS
    by_cases c : nI 9999 ≤ V 0
    · rw [if_pos c]; exact Or.inl rfl
    · rw [if_neg c]; exact Or.inr rfl
  · rw [if_neg c1]
    by_cases c2 : sg f L a = 120
    · rw [if_pos c2]; exact Or.inr rfl
    · rw [if_neg c2]
      by_cases c3 : sg f L a = 112
      · rw [if_pos c3]
        by_cases c : nv V 1 < 8
        · rw [if_pos c]; exact Or.inr rfl
        · rw [if_neg c]; exact Or.inl rfl
      · rw [if_neg c3]
        by_cases c : dn (sg f L (a + 1)) < nv V 1
        · rw [if_pos c]
          cases wy V (prt V (dn (sg f L (a + 1))) 0) (prt V (dn (sg f L (a + 1))) 2) with
          | none => exact Or.inl rfl
          | some w => exact Or.inr rfl
        · rw [if_neg c]; exact Or.inl rfl
theorem rnG_s (f : Nat → Int32) (L k : Nat) (V : Nat → Int32) (a m : Nat) : rnG f L (k + 1) V a m = if a < L then (if doB V f L a = nI 1 then rnG f L k (doV V f L a) (nxG f L (L - a) a + 1) (m + 1) else (doV V f L a, m)) else (V, m) := rfl
theorem ok_rnG {f : Nat → Int32} {L : Nat} : ∀ (k : Nat) (V : Nat → Int32) (a m : Nat), okV V → orO f L k a → okV (rnG f L k V a m).1
  | 0, _, _, _, h, _ => h
  | k + 1, V, a, m, h, g => by
    rw [rnG_s]
    by_cases c : a < L
    · rw [if_pos c]
      have g2 := g c
      have k2 := ok_doV h g2.1
      by_cases c2 : doB V f L a = nI 1
      · rw [if_pos c2]
        exact ok_rnG k _ _ _ k2 g2.2
      · rw [if_neg c2]
        exact k2
    · rw [if_neg c]
      exact h
set_option maxRecDepth 100000 in
set_option maxHeartbeats 4000000 in
theorem C_append {d : Nat → Nat → Int32} {r : Nat → Nat → Option Nat} {J : Nat → Nat → Int64} {V : Nat → Int32} {n : Nat} {H S : Nat → Nat → Int32} {t : Nat → Bool} {T : Nat → Int32} {tl : Nat} (h : RC d r V n H S t T tl) (iv : IV V n H S t T tl) {q : Nat} (h33 : 33 ≤ q) (h126 : q ≤ 126) (hlt : tl < 60) : ∃ d1 r1, OP kX6_append yX6_append 7 [.ref 0, .int (nI q)] d r J (some (.int (nI (tl + 1)))) d1 r1 J ∧ RC d1 r1 V n H S t (upd T tl (nI q)) (tl + 1) ∧ fm d d1 := by
  have e1 : (d2 (d2 d 49 tl (nI q)) 48 1 (nI tl + nI 1)) 48 1 = nI (tl + 1) := (d2_eq _ _ _ _).trans (nI_1 _)
  refine ⟨d2 (d2 d 49 tl (nI q)) 48 1 (nI tl + nI 1), r, op_of pl_X6_append (Nat.le_of_ble_eq_true rfl) ?_, RC_text h (fun c h1 h2 => by rw [d2_off _ _ h1, d2_off _ _ h2]) e1 ?_, fun c hc => by rw [d2_off _ _ (by omega), d2_off _ _ (by omega)]⟩
  ·
    refine sw_iload_n (i := 1) dX6_append_0 rfl rfl ?_
    refine sw_bi 33 dX6_append_1 (by decide +kernel) ?_
    refine sw_bi 126 dX6_append_3 (by decide +kernel) ?_
    refine px_Sv ms_X6_86 (A_X6_needRange (lo := 33) (hi := 126) h33 h126 (by decide)) rfl rfl (Nat.le_of_ble_eq_true rfl) (Nat.le_of_ble_eq_true rfl) (Nat.le_of_ble_eq_true rfl) dX6_append_5 ?_
    refine sw_aload_n (i := 0) dX6_append_8 rfl rfl ?_
    refine sx_getR (q := 48) f_X6_33 (by decide) kr_0_3 dX6_append_9 ?_
    refine sx_getIE (nI tl) (rcL h) f_X6_124 (by decide) kf_48_1 dX6_append_12 ?_
    refine sw_ins (pc2 := 15) rfl rfl ?_
    refine sw_bi 60 dX6_append_15 (by decide +kernel) ?_
    refine sw_ic_lt (tgt := 30) dX6_append_17 rfl (fun _ => ?_) (fun h9 => absurd (nI_lt hlt (by decide)) h9)
    refine sw_aload_n (i := 0) dX6_append_30 rfl rfl ?_
    refine sx_getR (q := 48) f_X6_33 (by decide) kr_0_3 dX6_append_31 ?_
    refine sw_iload_n (i := 1) dX6_append_34 rfl rfl ?_
    refine sw_i2c dX6_append_35 (i2c_q q (by omega)) ?_
    refine px_Vv mv_X6_129 (A_X4_put (rcL h) hlt h126) rfl rfl (Nat.le_of_ble_eq_true rfl) (Nat.le_of_ble_eq_true rfl) ko_48 (Nat.le_of_ble_eq_true rfl) dX6_append_36 ?_
    refine sw_aload_n (i := 0) dX6_append_39 rfl rfl ?_
    refine sw_ins (pc2 := 40) rfl rfl ?_
    refine sx_getR (q := 48) f_X6_33 (by decide) kr_0_3 dX6_append_40 ?_
    refine sx_getIE (nI (tl + 1)) e1 f_X6_124 (by decide) kf_48_1 dX6_append_43 ?_
    exact sw_ireturn rfl dX6_append_46
  · rw [d2_off _ _ (by decide), ← rcT h]
    funext j
    show (d2 d 49 tl (nI q)) 49 j = upd (d 49) tl (nI q) j
    by_cases e : j = tl
    · subst e
      rw [d2_eq, upd_eq]
    · rw [d2_ne _ _ (Or.inr e), upd_ne _ _ e]
set_option maxRecDepth 100000 in
set_option maxHeartbeats 4000000 in
theorem T1_append {d : Nat → Nat → Int32} {r : Nat → Nat → Option Nat} {J : Nat → Nat → Int64} {V : Nat → Int32} {n : Nat} {H S : Nat → Nat → Int32} {t : Nat → Bool} {T : Nat → Int32} {tl : Nat} (h : RC d r V n H S t T tl) (iv : IV V n H S t T tl) {x : Int32} (hx : x < nI 33 ∨ ¬ x ≤ nI 126) : OT kX6_append yX6_append 7 [.ref 0, .int x] d r J "java/lang/IllegalArgumentException" := by
  refine ot_of pl_X6_append (Nat.le_of_ble_eq_true rfl) ?_
  refine sw_iload_n (i := 1) dX6_append_0 rfl rfl ?_
  refine sw_bi 33 dX6_append_1 (by decide +kernel) ?_
  refine sw_bi 126 dX6_append_3 (by decide +kernel) ?_
  exact px_ST ms_X6_86 (T_X6_needRange hx) rfl rfl (Nat.le_of_ble_eq_true rfl) (Nat.le_of_ble_eq_true rfl) (Nat.le_of_ble_eq_true rfl) dX6_append_5
set_option maxRecDepth 100000 in
set_option maxHeartbeats 4000000 in
theorem T2_append {d : Nat → Nat → Int32} {r : Nat → Nat → Option Nat} {J : Nat → Nat → Int64} {V : Nat → Int32} {n : Nat} {H S : Nat → Nat → Int32} {t : Nat → Bool} {T : Nat → Int32} {tl : Nat} (h : RC d r V n H S t T tl) (iv : IV V n H S t T tl) {q : Nat} (h33 : 33 ≤ q) (h126 : q ≤ 126) (hge : 60 ≤ tl) : OT kX6_append yX6_append 7 [.ref 0, .int (nI q)] d r J "java/lang/IllegalStateException" := by
  refine ot_of pl_X6_append (Nat.le_of_ble_eq_true rfl) ?_
  have h60 := iv.2.2.2.1
  refine sw_iload_n (i := 1) dX6_append_0 rfl rfl ?_
  refine sw_bi 33 dX6_append_1 (by decide +kernel) ?_
  refine sw_bi 126 dX6_append_3 (by decide +kernel) ?_
  refine px_Sv ms_X6_86 (A_X6_needRange (lo := 33) (hi := 126) h33 h126 (by decide)) rfl rfl (Nat.le_of_ble_eq_true rfl) (Nat.le_of_ble_eq_true rfl) (Nat.le_of_ble_eq_true rfl) dX6_append_5 ?_
  refine sw_aload_n (i := 0) dX6_append_8 rfl rfl ?_
  refine sx_getR (q := 48) f_X6_33 (by decide) kr_0_3 dX6_append_9 ?_
  refine sx_getIE (nI tl) (rcL h) f_X6_124 (by decide) kf_48_1 dX6_append_12 ?_
  refine sw_ins (pc2 := 15) rfl rfl ?_
  refine sw_bi 60 dX6_append_15 (by decide +kernel) ?_
  refine sw_ic_lt (tgt := 30) dX6_append_17 rfl (fun h9 => absurd h9 (nI_nlt hge (by omega))) (fun _ => ?_)
  exact sw_throw (text := "the buffer is full") rfl (by decide +kernel) (by decide +kernel) cn_X6_53 ie_57 (by decide +kernel) ot_57 (Nat.le_refl _) (Nat.le_refl _) (Nat.le_of_ble_eq_true rfl) (Nat.le_of_ble_eq_true rfl) rfl dX6_append_20 dX6_append_23 dX6_append_24 dX6_append_26 dX6_append_29
set_option maxRecDepth 100000 in
set_option maxHeartbeats 4000000 in
theorem C_clearBuffer {d : Nat → Nat → Int32} {r : Nat → Nat → Option Nat} {J : Nat → Nat → Int64} {V : Nat → Int32} {n : Nat} {H S : Nat → Nat → Int32} {t : Nat → Bool} {T : Nat → Int32} {tl : Nat} (h : RC d r V n H S t T tl) (iv : IV V n H S t T tl)  : ∃ d1 r1, OP kX6_clearBuffer yX6_clearBuffer 0 [.ref 0] d r J (some (.int (nI tl))) d1 r1 J ∧ RC d1 r1 V n H S t T 0 ∧ fm d d1 := by
  refine ⟨d2 d 48 1 (nI 0), r, op_of pl_X6_clearBuffer (Nat.le_of_ble_eq_true rfl) ?_, RC_len h, fun c hc => d2_off _ _ (by omega)⟩
  refine sw_aload_n (i := 0) dX6_clearBuffer_0 rfl rfl ?_
  refine sx_getR (q := 48) f_X6_33 (by decide) kr_0_3 dX6_clearBuffer_1 ?_
  refine sx_getIE (nI tl) (rcL h) f_X6_124 (by decide) kf_48_1 dX6_clearBuffer_4 ?_
  refine sw_istore_n (i := 1) dX6_clearBuffer_7 rfl (Nat.le_of_ble_eq_true rfl) rfl ?_
  refine sw_lo (lo2 := [some (.ref 0), some (.int _)]) rfl ?_
  refine sw_aload_n (i := 0) dX6_clearBuffer_8 rfl rfl ?_
  refine sx_getR (q := 48) f_X6_33 (by decide) kr_0_3 dX6_clearBuffer_9 ?_
  refine sw_ic 0 dX6_clearBuffer_12 ?_
  refine sw_ins (pc2 := 13) rfl rfl ?_
  refine sx_putI fp_X6_124 (by decide) kf_48_1 dX6_clearBuffer_13 ?_
  refine sw_iload_n (i := 1) dX6_clearBuffer_16 rfl rfl ?_
  exact sw_ireturn rfl dX6_clearBuffer_17
set_option maxRecDepth 100000 in
set_option maxHeartbeats 4000000 in
theorem C_firstError {d : Nat → Nat → Int32} {r : Nat → Nat → Option Nat} {J : Nat → Nat → Int64} {V : Nat → Int32} {n : Nat} {H S : Nat → Nat → Int32} {t : Nat → Bool} {T : Nat → Int32} {tl : Nat} (h : RC d r V n H S t T tl) (iv : IV V n H S t T tl)  : ∃ d1 r1, OP kX6_firstError yX6_firstError 3 [.ref 0] d r J (some (.int (nI (erG T tl tl 0)))) d1 r1 J ∧ RC d1 r1 V n H S t T tl ∧ fm d d1 := by
  have he := A_X4_errorAt (d := d) (r := r) (J := J) (rcL h) (rcX h iv)
  rw [rcT h] at he
  refine ⟨d, r, op_of pl_X6_firstError (Nat.le_of_ble_eq_true rfl) ?_, h, fm_refl d⟩
  refine sw_aload_n (i := 0) dX6_firstError_0 rfl rfl ?_
  refine sx_getR (q := 48) f_X6_33 (by decide) kr_0_3 dX6_firstError_1 ?_
  refine px_Vx mv_X6_133 he rfl rfl (Nat.le_of_ble_eq_true rfl) (Nat.le_of_ble_eq_true rfl) ko_48 (Nat.le_of_ble_eq_true rfl) dX6_firstError_4 ?_
  exact sw_ireturn rfl dX6_firstError_7
set_option maxRecDepth 100000 in
set_option maxHeartbeats 4000000 in
theorem B_X6_run {r : Nat → Nat → Option Nat} {J : Nat → Nat → Int64} {n : Nat} {H S : Nat → Nat → Int32} {t : Nat → Bool} {T : Nat → Int32} {tl : Nat} (okX : okT T tl) : ∀ (k : Nat) (d : Nat → Nat → Int32) (V : Nat → Int32) (a m : Nat), RC d r V n H S t T tl → okV V → orO T tl k a → a ≤ 61 → m ≤ a → tl < a + k → ∃ d1, SW yX6_run cX6_run 3 (some .int) [] 6 none 35 [some (.ref 0), some (.int (nI m)), some (.int (nI a))] [] 75 (W0 d r J) 0 0 (.inl (some (.int (nI (rnG T tl k V a m).2)))) 75 (W0 d1 r J) ∧ RC d1 r (rnG T tl k V a m).1 n H S t T 0 ∧ fm d d1 := by
  intro k
  induction k with
  | zero =>
    intro d V a m h ok g ha hm hk
    have h60 := okX.1
    refine ⟨d2 d 48 1 (nI 0), ?_, RC_len h, fun c hc => d2_off _ _ (by omega)⟩
    by_cases m60 : m < 60
    ·
      refine sw_iload_n (i := 1) dX6_run_35 rfl rfl ?_
      refine sw_bi 60 dX6_run_36 (by decide +kernel) ?_
      refine sw_ic_ge (tgt := 75) dX6_run_38 rfl (fun h9 => absurd h9 (nI_ge m60 (by decide))) (fun _ => ?_)
      refine sw_iload_n (i := 2) dX6_run_41 rfl rfl ?_
      refine sw_aload_n (i := 0) dX6_run_42 rfl rfl ?_
      refine sx_getR (q := 48) f_X6_33 (by decide) kr_0_3 dX6_run_43 ?_
      refine sx_getIE (nI tl) (rcL h) f_X6_124 (by decide) kf_48_1 dX6_run_46 ?_
      refine sw_ins (pc2 := 49) rfl rfl ?_
      refine sw_ic_ge (tgt := 75) dX6_run_49 rfl (fun _ => ?_) (fun h9 => absurd (nI_le (by omega) (by omega)) h9)
      refine sw_aload_n (i := 0) dX6_run_75 rfl rfl ?_
      refine sx_getR (q := 48) f_X6_33 (by decide) kr_0_3 dX6_run_76 ?_
      refine sw_ic 0 dX6_run_79 ?_
      refine sx_putI fp_X6_124 (by decide) kf_48_1 dX6_run_80 ?_
      refine sw_iload_n (i := 1) dX6_run_83 rfl rfl ?_
      exact sw_ireturn rfl dX6_run_84
    ·
      refine sw_iload_n (i := 1) dX6_run_35 rfl rfl ?_
      refine sw_bi 60 dX6_run_36 (by decide +kernel) ?_
      refine sw_ic_ge (tgt := 75) dX6_run_38 rfl (fun _ => ?_) (fun h9 => absurd (nI_le (by omega) (by omega)) h9)
      refine sw_aload_n (i := 0) dX6_run_75 rfl rfl ?_
      refine sx_getR (q := 48) f_X6_33 (by decide) kr_0_3 dX6_run_76 ?_
      refine sw_ic 0 dX6_run_79 ?_
      refine sx_putI fp_X6_124 (by decide) kf_48_1 dX6_run_80 ?_
      refine sw_ins (pc2 := 83) rfl rfl ?_
      refine sw_iload_n (i := 1) dX6_run_83 rfl rfl ?_
      exact sw_ireturn rfl dX6_run_84
  | succ k ih =>
    intro d V a m h ok g ha hm hk
    have h60 := okX.1
    rw [rnG_s]
    by_cases c : a < tl
    · rw [if_pos c]
      obtain ⟨w1, w2⟩ := g c
      obtain ⟨e1, x1, x2, x3⟩ := A_X6_isDone (d := d) (r := r) (J := J) (L := tl) (a := a) (rcL h) (by rw [rcT h]; exact okX) (by rw [rcV h]; exact ok) (by omega) (by rw [rcT h]; exact w1)
      rw [rcV h, rcT h] at x1 x2
      have h2 := RC_isl h x3 x2
      have k2 := ok_doV ok w1
      by_cases c2 : doB V T tl a = nI 1
      · rw [if_pos c2]
        rw [c2] at x1
        have nx := nxG_le T tl (tl - a) a
        obtain ⟨e2, y1, y2, y3⟩ := ih e1 _ (nxG T tl (tl - a) a + 1) (m + 1) h2 k2 w2 (by omega) (by omega) (by omega)
        have hn := A_X4_nextOrder (d := e1) (r := r) (J := J) (L := tl) (a := a) (rcL h2) (by rw [rcT h2]; exact okX) (by omega)
        rw [rcT h2] at hn
        refine ⟨e2, ?_, y2, fm_trans (fr1_fm x3) y3⟩
        refine sw_iload_n (i := 1) dX6_run_35 rfl rfl ?_
        refine sw_bi 60 dX6_run_36 (by decide +kernel) ?_
        refine sw_ic_ge (tgt := 75) dX6_run_38 rfl (fun h9 => absurd h9 (nI_ge (by omega) (by decide))) (fun _ => ?_)
        refine sw_iload_n (i := 2) dX6_run_41 rfl rfl ?_
        refine sw_aload_n (i := 0) dX6_run_42 rfl rfl ?_
        refine sx_getR (q := 48) f_X6_33 (by decide) kr_0_3 dX6_run_43 ?_
        refine sx_getIE (nI tl) (rcL h) f_X6_124 (by decide) kf_48_1 dX6_run_46 ?_
        refine sw_ins (pc2 := 49) rfl rfl ?_
        refine sw_ic_ge (tgt := 75) dX6_run_49 rfl (fun h9 => absurd h9 (nI_ge c (by omega))) (fun _ => ?_)
        refine sw_aload_n (i := 0) dX6_run_52 rfl rfl ?_
        refine sw_iload_n (i := 2) dX6_run_53 rfl rfl ?_
        refine px_Vx mv_X6_144 x1 rfl rfl (Nat.le_of_ble_eq_true rfl) (Nat.le_of_ble_eq_true rfl) ko_0 (Nat.le_of_ble_eq_true rfl) dX6_run_54 ?_
        refine sw_if_eq (tgt := 75) dX6_run_57 rfl (fun h9 => absurd h9 (by decide)) (fun _ => ?_)
        refine sw_iinc (i := 1) (v := nI (m + 1)) dX6_run_60 rfl (nI_1 _) (Nat.le_of_ble_eq_true rfl) rfl ?_
        refine sw_lo (lo2 := [some (.ref 0), some (.int _), some (.int _)]) rfl ?_
        refine sw_aload_n (i := 0) dX6_run_63 rfl rfl ?_
        refine sx_getR (q := 48) f_X6_33 (by decide) kr_0_3 dX6_run_64 ?_
        refine sw_ins (pc2 := 67) rfl rfl ?_
        refine sw_iload_n (i := 2) dX6_run_67 rfl rfl ?_
        refine px_Vx mv_X6_148 hn rfl rfl (Nat.le_of_ble_eq_true rfl) (Nat.le_of_ble_eq_true rfl) ko_48 (Nat.le_of_ble_eq_true rfl) dX6_run_68 ?_
        refine sw_istore_n (i := 2) dX6_run_71 rfl (Nat.le_of_ble_eq_true rfl) rfl ?_
        refine sw_lo (lo2 := [some (.ref 0), some (.int _), some (.int _)]) rfl ?_
        refine sw_goto (tgt := 35) dX6_run_72 rfl ?_
        exact y1
      · rw [if_neg c2]
        have c3 := (doB_01 V T tl a).resolve_right c2
        rw [c3] at x1
        refine ⟨d2 e1 48 1 (nI 0), ?_, RC_len h2, fm_trans (fr1_fm x3) (fun c hc => d2_off _ _ (by omega))⟩
        refine sw_iload_n (i := 1) dX6_run_35 rfl rfl ?_
        refine sw_bi 60 dX6_run_36 (by decide +kernel) ?_
        refine sw_ic_ge (tgt := 75) dX6_run_38 rfl (fun h9 => absurd h9 (nI_ge (by omega) (by decide))) (fun _ => ?_)
        refine sw_iload_n (i := 2) dX6_run_41 rfl rfl ?_
        refine sw_aload_n (i := 0) dX6_run_42 rfl rfl ?_
        refine sx_getR (q := 48) f_X6_33 (by decide) kr_0_3 dX6_run_43 ?_
        refine sx_getIE (nI tl) (rcL h) f_X6_124 (by decide) kf_48_1 dX6_run_46 ?_
        refine sw_ins (pc2 := 49) rfl rfl ?_
        refine sw_ic_ge (tgt := 75) dX6_run_49 rfl (fun h9 => absurd h9 (nI_ge c (by omega))) (fun _ => ?_)
        refine sw_aload_n (i := 0) dX6_run_52 rfl rfl ?_
        refine sw_iload_n (i := 2) dX6_run_53 rfl rfl ?_
        refine px_Vx mv_X6_144 x1 rfl rfl (Nat.le_of_ble_eq_true rfl) (Nat.le_of_ble_eq_true rfl) ko_0 (Nat.le_of_ble_eq_true rfl) dX6_run_54 ?_
        refine sw_if_eq (tgt := 75) dX6_run_57 rfl (fun _ => ?_) (fun h9 => absurd rfl h9)
        refine sw_aload_n (i := 0) dX6_run_75 rfl rfl ?_
        refine sx_getR (q := 48) f_X6_33 (by decide) kr_0_3 dX6_run_76 ?_
        refine sw_ic 0 dX6_run_79 ?_
        refine sw_ins (pc2 := 80) rfl rfl ?_
        refine sx_putI fp_X6_124 (by decide) kf_48_1 dX6_run_80 ?_
        refine sw_iload_n (i := 1) dX6_run_83 rfl rfl ?_
        exact sw_ireturn rfl dX6_run_84
    · rw [if_neg c]
      refine ⟨d2 d 48 1 (nI 0), ?_, RC_len h, fun c hc => d2_off _ _ (by omega)⟩
      by_cases m60 : m < 60
      ·
        refine sw_iload_n (i := 1) dX6_run_35 rfl rfl ?_
        refine sw_bi 60 dX6_run_36 (by decide +kernel) ?_
        refine sw_ic_ge (tgt := 75) dX6_run_38 rfl (fun h9 => absurd h9 (nI_ge m60 (by decide))) (fun _ => ?_)
        refine sw_iload_n (i := 2) dX6_run_41 rfl rfl ?_
        refine sw_aload_n (i := 0) dX6_run_42 rfl rfl ?_
        refine sx_getR (q := 48) f_X6_33 (by decide) kr_0_3 dX6_run_43 ?_
        refine sx_getIE (nI tl) (rcL h) f_X6_124 (by decide) kf_48_1 dX6_run_46 ?_
        refine sw_ins (pc2 := 49) rfl rfl ?_
        refine sw_ic_ge (tgt := 75) dX6_run_49 rfl (fun _ => ?_) (fun h9 => absurd (nI_le (by omega) (by omega)) h9)
        refine sw_aload_n (i := 0) dX6_run_75 rfl rfl ?_
        refine sx_getR (q := 48) f_X6_33 (by decide) kr_0_3 dX6_run_76 ?_
        refine sw_ic 0 dX6_run_79 ?_
        refine sx_putI fp_X6_124 (by decide) kf_48_1 dX6_run_80 ?_
        refine sw_iload_n (i := 1) dX6_run_83 rfl rfl ?_
        exact sw_ireturn rfl dX6_run_84
      ·
        refine sw_iload_n (i := 1) dX6_run_35 rfl rfl ?_
        refine sw_bi 60 dX6_run_36 (by decide +kernel) ?_
        refine sw_ic_ge (tgt := 75) dX6_run_38 rfl (fun _ => ?_) (fun h9 => absurd (nI_le (by omega) (by omega)) h9)
        refine sw_aload_n (i := 0) dX6_run_75 rfl rfl ?_
        refine sx_getR (q := 48) f_X6_33 (by decide) kr_0_3 dX6_run_76 ?_
        refine sw_ic 0 dX6_run_79 ?_
        refine sx_putI fp_X6_124 (by decide) kf_48_1 dX6_run_80 ?_
        refine sw_ins (pc2 := 83) rfl rfl ?_
        refine sw_iload_n (i := 1) dX6_run_83 rfl rfl ?_
        exact sw_ireturn rfl dX6_run_84
set_option maxRecDepth 100000 in
set_option maxHeartbeats 4000000 in
theorem C_run {d : Nat → Nat → Int32} {r : Nat → Nat → Option Nat} {J : Nat → Nat → Int64} {V : Nat → Int32} {n : Nat} {H S : Nat → Nat → Int32} {t : Nat → Bool} {T : Nat → Int32} {tl : Nat} (h : RC d r V n H S t T tl) (iv : IV V n H S t T tl) (hE : rnS T tl tl = 11) (ho : orO T tl (tl + 1) 0) : ∃ d1 r1, OP kX6_run yX6_run 6 [.ref 0] d r J (some (.int (nI (rnG T tl (tl + 1) V 0 0).2))) d1 r1 J ∧ RC d1 r1 (rnG T tl (tl + 1) V 0 0).1 (psN n) (psH H n V) S t T 0 ∧ fm d d1 := by
  have ht := A_X4_tellsOrders (d := d) (r := r) (J := J) (rcL h) (rcX h iv)
  rw [rcT h, show tel T tl = nI 1 from if_pos hE] at ht
  obtain ⟨d1, r1, g1, h1, f1⟩ := C_push (J := J) h
  have v1 : cV d1 1 = V := rcV h1
  have fp : fm d d1 := fun c hc => f1 c (by omega)
  have okX := iv.2.2.2
  obtain ⟨e1, x1, x2, x3⟩ := B_X6_run (r := r1) (J := J) okX (tl + 1) d1 V 0 0 h1 iv.1 ho (by decide) (Nat.le_refl _) (by omega)
  refine ⟨e1, r1, op_of pl_X6_run (Nat.le_of_ble_eq_true rfl) ?_, x2, fm_trans fp x3⟩
  refine sw_aload_n (i := 0) dX6_run_0 rfl rfl ?_
  refine sx_getR (q := 48) f_X6_33 (by decide) kr_0_3 dX6_run_1 ?_
  refine px_Vx mv_X6_136 ht rfl rfl (Nat.le_of_ble_eq_true rfl) (Nat.le_of_ble_eq_true rfl) ko_48 (Nat.le_of_ble_eq_true rfl) dX6_run_4 ?_
  refine sw_if_ne (tgt := 20) dX6_run_7 rfl (fun _ => ?_) (fun h9 => absurd h9 (by decide))
  refine sw_aload_n (i := 0) dX6_run_20 rfl rfl ?_
  refine sx_getR (q := 7) f_X6_19 (by decide) kr_0_1 dX6_run_21 ?_
  refine sw_aload_n (i := 0) dX6_run_24 rfl rfl ?_
  refine sw_ins (pc2 := 25) rfl rfl ?_
  refine sx_getR (q := 1) f_X6_10 (by decide) kr_0_0 dX6_run_25 ?_
  refine px_Vv mv_X6_60 g1 rfl rfl (Nat.le_of_ble_eq_true rfl) (Nat.le_of_ble_eq_true rfl) ko_7 (Nat.le_of_ble_eq_true rfl) dX6_run_28 ?_
  refine sw_ic 0 dX6_run_31 ?_
  refine sw_istore_n (i := 1) dX6_run_32 rfl (Nat.le_of_ble_eq_true rfl) rfl ?_
  refine sw_lo (lo2 := [some (.ref 0), some (.int _), none]) rfl ?_
  refine sw_ic 0 dX6_run_33 ?_
  refine sw_istore_n (i := 2) dX6_run_34 rfl (Nat.le_of_ble_eq_true rfl) rfl ?_
  refine sw_lo (lo2 := [some (.ref 0), some (.int _), some (.int _)]) rfl ?_
  exact x1
set_option maxRecDepth 100000 in
set_option maxHeartbeats 4000000 in
theorem T_run {d : Nat → Nat → Int32} {r : Nat → Nat → Option Nat} {J : Nat → Nat → Int64} {V : Nat → Int32} {n : Nat} {H S : Nat → Nat → Int32} {t : Nat → Bool} {T : Nat → Int32} {tl : Nat} (h : RC d r V n H S t T tl) (iv : IV V n H S t T tl) (hE : ¬ rnS T tl tl = 11) : OT kX6_run yX6_run 6 [.ref 0] d r J "java/lang/IllegalArgumentException" := by
  refine ot_of pl_X6_run (Nat.le_of_ble_eq_true rfl) ?_
  have ht := A_X4_tellsOrders (d := d) (r := r) (J := J) (rcL h) (rcX h iv)
  rw [rcT h, show tel T tl = nI 0 from if_neg hE] at ht
  refine sw_aload_n (i := 0) dX6_run_0 rfl rfl ?_
  refine sx_getR (q := 48) f_X6_33 (by decide) kr_0_3 dX6_run_1 ?_
  refine px_Vx mv_X6_136 ht rfl rfl (Nat.le_of_ble_eq_true rfl) (Nat.le_of_ble_eq_true rfl) ko_48 (Nat.le_of_ble_eq_true rfl) dX6_run_4 ?_
  refine sw_if_ne (tgt := 20) dX6_run_7 rfl (fun h9 => absurd rfl h9) (fun _ => ?_)
  exact sw_throw (text := "the buffer does not tell orders") rfl (by decide +kernel) (by decide +kernel) cn_X6_139 ie_143 (by decide +kernel) ot_143 (Nat.le_refl _) (Nat.le_refl _) (Nat.le_of_ble_eq_true rfl) (Nat.le_of_ble_eq_true rfl) rfl dX6_run_10 dX6_run_13 dX6_run_14 dX6_run_16 dX6_run_19
set_option maxRecDepth 100000 in
set_option maxHeartbeats 4000000 in
theorem C0_keep {d : Nat → Nat → Int32} {r : Nat → Nat → Option Nat} {J : Nat → Nat → Int64} {V : Nat → Int32} {n : Nat} {H S : Nat → Nat → Int32} {t : Nat → Bool} {T : Nat → Int32} {tl : Nat} (h : RC d r V n H S t T tl) (iv : IV V n H S t T tl)  : ∃ d1 r1, OP kX6_keep yX6_keep 7 [.ref 0, .int (nI 0)] d r J (some (.int (V 0))) d1 r1 J ∧ RC d1 r1 V n H (sS S 0 V) (sT t 0) T tl ∧ fm d d1 := by
  obtain ⟨e1, a1, b1, c1⟩ := A_X2_copy (d := d) (r := r) (J := J) (b := 53) (e := 1) isB_53 isB_1 (by decide)
  rw [rcV h] at b1
  have hv : cV (d2 e1 51 0 (nI 1)) 1 = V := (cV_keep (fun c hc => by rw [d2_off _ _ (by omega), c1 c (by omega) (by omega) (by omega) (by omega) (by omega)])).trans (rcV h)
  refine ⟨d2 e1 51 0 (nI 1), r, op_of pl_X6_keep (Nat.le_of_ble_eq_true rfl) ?_, RC_slot (s := 0) (by decide) h (fun c hc => by rw [d2_off _ _ (by omega), c1 c (by omega) (by omega) (by omega) (by omega) (by omega)]) ?_ ?_ (d2_eq _ _ _ _), fun c hc => by rw [d2_off _ _ (by omega), c1 c (by omega) (by omega) (by omega) (by omega) (by omega)]⟩
  ·
    refine sw_iload_n (i := 1) dX6_keep_0 rfl rfl ?_
    refine sw_ic 0 dX6_keep_1 ?_
    refine sw_ic 1 dX6_keep_2 ?_
    refine px_Sv ms_X6_86 (A_X6_needRange (a := 0) (lo := 0) (hi := 1) (Nat.zero_le _) (by decide) (by decide)) rfl rfl (Nat.le_of_ble_eq_true rfl) (Nat.le_of_ble_eq_true rfl) (Nat.le_of_ble_eq_true rfl) dX6_keep_3 ?_
    refine sw_aload_n (i := 0) dX6_keep_6 rfl rfl ?_
    refine sx_getR (q := 1) f_X6_10 (by decide) kr_0_0 dX6_keep_7 ?_
    refine sw_aload_n (i := 0) dX6_keep_10 rfl rfl ?_
    refine sw_ins (pc2 := 11) rfl rfl ?_
    refine sx_getR (q := 50) f_X6_37 (by decide) kr_0_4 dX6_keep_11 ?_
    refine sw_iload_n (i := 1) dX6_keep_14 rfl rfl ?_
    refine sx_aald (q := 53) (0) rfl rfl (by omega) h.2.2.1.1 dX6_keep_15 ?_
    refine px_Sv ms_X6_151 a1 rfl rfl (Nat.le_of_ble_eq_true rfl) (Nat.le_of_ble_eq_true rfl) (Nat.le_of_ble_eq_true rfl) dX6_keep_16 ?_
    refine sw_aload_n (i := 0) dX6_keep_19 rfl rfl ?_
    refine sx_getR (q := 51) f_X6_41 (by decide) kr_0_5 dX6_keep_20 ?_
    refine sw_iload_n (i := 1) dX6_keep_23 rfl rfl ?_
    refine sw_ic 1 dX6_keep_24 ?_
    refine sw_ins (pc2 := 25) rfl rfl ?_
    refine sx_zast (0) rfl rfl (by omega) rfl dX6_keep_25 ?_
    refine sw_aload_n (i := 0) dX6_keep_26 rfl rfl ?_
    refine sx_getR (q := 1) f_X6_10 (by decide) kr_0_0 dX6_keep_27 ?_
    refine sx_getIE (V 0) ((cV_day (d2 e1 51 0 (nI 1)) 1).trans (congrFun hv 0)) f_X6_155 (by decide) kf_1_6 dX6_keep_30 ?_
    exact sw_ireturn rfl dX6_keep_33
  · intro i hi hne
    have e : i = 1 := by omega
    subst e
    refine ⟨cV_keep (fun c hc => by rw [d2_off _ _ (by omega), c1 c (by omega) (by omega) (by omega) (by omega) (by omega)]), ?_⟩
    rw [d2_ne _ _ (Or.inr (by decide)), c1 51 (by decide) (by decide) (by decide) (by decide) (by decide)]
  · exact (cV_keep (fun c hc => d2_off _ _ (by omega))).trans b1
set_option maxRecDepth 100000 in
set_option maxHeartbeats 4000000 in
theorem C1_keep {d : Nat → Nat → Int32} {r : Nat → Nat → Option Nat} {J : Nat → Nat → Int64} {V : Nat → Int32} {n : Nat} {H S : Nat → Nat → Int32} {t : Nat → Bool} {T : Nat → Int32} {tl : Nat} (h : RC d r V n H S t T tl) (iv : IV V n H S t T tl)  : ∃ d1 r1, OP kX6_keep yX6_keep 7 [.ref 0, .int (nI 1)] d r J (some (.int (V 0))) d1 r1 J ∧ RC d1 r1 V n H (sS S 1 V) (sT t 1) T tl ∧ fm d d1 := by
  obtain ⟨e1, a1, b1, c1⟩ := A_X2_copy (d := d) (r := r) (J := J) (b := 59) (e := 1) isB_59 isB_1 (by decide)
  rw [rcV h] at b1
  have hv : cV (d2 e1 51 1 (nI 1)) 1 = V := (cV_keep (fun c hc => by rw [d2_off _ _ (by omega), c1 c (by omega) (by omega) (by omega) (by omega) (by omega)])).trans (rcV h)
  refine ⟨d2 e1 51 1 (nI 1), r, op_of pl_X6_keep (Nat.le_of_ble_eq_true rfl) ?_, RC_slot (s := 1) (by decide) h (fun c hc => by rw [d2_off _ _ (by omega), c1 c (by omega) (by omega) (by omega) (by omega) (by omega)]) ?_ ?_ (d2_eq _ _ _ _), fun c hc => by rw [d2_off _ _ (by omega), c1 c (by omega) (by omega) (by omega) (by omega) (by omega)]⟩
  ·
    refine sw_iload_n (i := 1) dX6_keep_0 rfl rfl ?_
    refine sw_ic 0 dX6_keep_1 ?_
    refine sw_ic 1 dX6_keep_2 ?_
    refine px_Sv ms_X6_86 (A_X6_needRange (a := 1) (lo := 0) (hi := 1) (Nat.zero_le _) (by decide) (by decide)) rfl rfl (Nat.le_of_ble_eq_true rfl) (Nat.le_of_ble_eq_true rfl) (Nat.le_of_ble_eq_true rfl) dX6_keep_3 ?_
    refine sw_aload_n (i := 0) dX6_keep_6 rfl rfl ?_
    refine sx_getR (q := 1) f_X6_10 (by decide) kr_0_0 dX6_keep_7 ?_
    refine sw_aload_n (i := 0) dX6_keep_10 rfl rfl ?_
    refine sw_ins (pc2 := 11) rfl rfl ?_
    refine sx_getR (q := 50) f_X6_37 (by decide) kr_0_4 dX6_keep_11 ?_
    refine sw_iload_n (i := 1) dX6_keep_14 rfl rfl ?_
    refine sx_aald (q := 59) (1) rfl rfl (by omega) h.2.2.1.2 dX6_keep_15 ?_
    refine px_Sv ms_X6_151 a1 rfl rfl (Nat.le_of_ble_eq_true rfl) (Nat.le_of_ble_eq_true rfl) (Nat.le_of_ble_eq_true rfl) dX6_keep_16 ?_
    refine sw_aload_n (i := 0) dX6_keep_19 rfl rfl ?_
    refine sx_getR (q := 51) f_X6_41 (by decide) kr_0_5 dX6_keep_20 ?_
    refine sw_iload_n (i := 1) dX6_keep_23 rfl rfl ?_
    refine sw_ic 1 dX6_keep_24 ?_
    refine sw_ins (pc2 := 25) rfl rfl ?_
    refine sx_zast (1) rfl rfl (by omega) rfl dX6_keep_25 ?_
    refine sw_aload_n (i := 0) dX6_keep_26 rfl rfl ?_
    refine sx_getR (q := 1) f_X6_10 (by decide) kr_0_0 dX6_keep_27 ?_
    refine sx_getIE (V 0) ((cV_day (d2 e1 51 1 (nI 1)) 1).trans (congrFun hv 0)) f_X6_155 (by decide) kf_1_6 dX6_keep_30 ?_
    exact sw_ireturn rfl dX6_keep_33
  · intro i hi hne
    have e : i = 0 := by omega
    subst e
    refine ⟨cV_keep (fun c hc => by rw [d2_off _ _ (by omega), c1 c (by omega) (by omega) (by omega) (by omega) (by omega)]), ?_⟩
    rw [d2_ne _ _ (Or.inr (by decide)), c1 51 (by decide) (by decide) (by decide) (by decide) (by decide)]
  · exact (cV_keep (fun c hc => d2_off _ _ (by omega))).trans b1
set_option maxRecDepth 100000 in
set_option maxHeartbeats 4000000 in
theorem T_keep {d : Nat → Nat → Int32} {r : Nat → Nat → Option Nat} {J : Nat → Nat → Int64} {V : Nat → Int32} {n : Nat} {H S : Nat → Nat → Int32} {t : Nat → Bool} {T : Nat → Int32} {tl : Nat} (h : RC d r V n H S t T tl) (iv : IV V n H S t T tl) {x : Int32} (hx : x < nI 0 ∨ ¬ x ≤ nI 1) : OT kX6_keep yX6_keep 7 [.ref 0, .int x] d r J "java/lang/IllegalArgumentException" := by
  refine ot_of pl_X6_keep (Nat.le_of_ble_eq_true rfl) ?_
  refine sw_iload_n (i := 1) dX6_keep_0 rfl rfl ?_
  refine sw_ic 0 dX6_keep_1 ?_
  refine sw_ic 1 dX6_keep_2 ?_
  exact px_ST ms_X6_86 (T_X6_needRange hx) rfl rfl (Nat.le_of_ble_eq_true rfl) (Nat.le_of_ble_eq_true rfl) (Nat.le_of_ble_eq_true rfl) dX6_keep_3
set_option maxRecDepth 100000 in
set_option maxHeartbeats 4000000 in
theorem C0_goBack {d : Nat → Nat → Int32} {r : Nat → Nat → Option Nat} {J : Nat → Nat → Int64} {V : Nat → Int32} {n : Nat} {H S : Nat → Nat → Int32} {t : Nat → Bool} {T : Nat → Int32} {tl : Nat} (h : RC d r V n H S t T tl) (iv : IV V n H S t T tl) (ht : t 0 = true) : ∃ d1 r1, OP kX6_goBack yX6_goBack 7 [.ref 0, .int (nI 0)] d r J (some (.int (S 0 0))) d1 r1 J ∧ RC d1 r1 (S 0) (psN n) (psH H n V) S t T tl ∧ fm d d1 := by
  obtain ⟨d1, r1, g1, h1, f1⟩ := C_push (J := J) h
  have v1 : cV d1 1 = V := rcV h1
  have fp : fm d d1 := fun c hc => f1 c (by omega)
  obtain ⟨e1, a1, b1, c1⟩ := A_X2_copy (d := d1) (r := r1) (J := J) (b := 1) (e := 53) isB_1 isB_53 (by decide)
  rw [rcS0 h1 ht] at b1
  refine ⟨e1, r1, op_of pl_X6_goBack (Nat.le_of_ble_eq_true rfl) ?_, RC_isl h1 (fun c q1 q2 q3 q4 => c1 c (by omega) (by omega) (by omega) (by omega) (by omega)) b1, fm_trans fp (fun c hc => c1 c (by omega) (by omega) (by omega) (by omega) (by omega))⟩
  refine sw_iload_n (i := 1) dX6_goBack_0 rfl rfl ?_
  refine sw_ic 0 dX6_goBack_1 ?_
  refine sw_ic 1 dX6_goBack_2 ?_
  refine px_Sv ms_X6_86 (A_X6_needRange (a := 0) (lo := 0) (hi := 1) (Nat.zero_le _) (by decide) (by decide)) rfl rfl (Nat.le_of_ble_eq_true rfl) (Nat.le_of_ble_eq_true rfl) (Nat.le_of_ble_eq_true rfl) dX6_goBack_3 ?_
  refine sw_aload_n (i := 0) dX6_goBack_6 rfl rfl ?_
  refine sx_getR (q := 51) f_X6_41 (by decide) kr_0_5 dX6_goBack_7 ?_
  refine sw_iload_n (i := 1) dX6_goBack_10 rfl rfl ?_
  refine sw_ins (pc2 := 11) rfl rfl ?_
  refine sx_zaldE (0) (nI 1) (by rw [rcT0 h, ht]; rfl) rfl rfl (by decide) dX6_goBack_11 ?_
  refine sw_if_ne (tgt := 25) dX6_goBack_12 rfl (fun _ => ?_) (fun h9 => absurd h9 (by decide))
  refine sw_aload_n (i := 0) dX6_goBack_25 rfl rfl ?_
  refine sx_getR (q := 7) f_X6_19 (by decide) kr_0_1 dX6_goBack_26 ?_
  refine sw_aload_n (i := 0) dX6_goBack_29 rfl rfl ?_
  refine sx_getR (q := 1) f_X6_10 (by decide) kr_0_0 dX6_goBack_30 ?_
  refine px_Vv mv_X6_60 g1 rfl rfl (Nat.le_of_ble_eq_true rfl) (Nat.le_of_ble_eq_true rfl) ko_7 (Nat.le_of_ble_eq_true rfl) dX6_goBack_33 ?_
  refine sw_aload_n (i := 0) dX6_goBack_36 rfl rfl ?_
  refine sw_ins (pc2 := 37) rfl rfl ?_
  refine sx_getR (q := 50) f_X6_37 (by decide) kr_0_4 dX6_goBack_37 ?_
  refine sw_iload_n (i := 1) dX6_goBack_40 rfl rfl ?_
  refine sx_aald (q := 53) (0) rfl rfl (by omega) h1.2.2.1.1 dX6_goBack_41 ?_
  refine sw_aload_n (i := 0) dX6_goBack_42 rfl rfl ?_
  refine sx_getR (q := 1) f_X6_10 (by decide) kr_0_0 dX6_goBack_43 ?_
  refine px_Sv ms_X6_151 a1 rfl rfl (Nat.le_of_ble_eq_true rfl) (Nat.le_of_ble_eq_true rfl) (Nat.le_of_ble_eq_true rfl) dX6_goBack_46 ?_
  refine sw_aload_n (i := 0) dX6_goBack_49 rfl rfl ?_
  refine sx_getR (q := 1) f_X6_10 (by decide) kr_0_0 dX6_goBack_50 ?_
  refine sw_ins (pc2 := 53) rfl rfl ?_
  refine sx_getIE ((S 0) 0) ((cV_day e1 1).trans (congrFun b1 0)) f_X6_155 (by decide) kf_1_6 dX6_goBack_53 ?_
  exact sw_ireturn rfl dX6_goBack_56
set_option maxRecDepth 100000 in
set_option maxHeartbeats 4000000 in
theorem T0_goBack {d : Nat → Nat → Int32} {r : Nat → Nat → Option Nat} {J : Nat → Nat → Int64} {V : Nat → Int32} {n : Nat} {H S : Nat → Nat → Int32} {t : Nat → Bool} {T : Nat → Int32} {tl : Nat} (h : RC d r V n H S t T tl) (iv : IV V n H S t T tl) (ht : t 0 = false) : OT kX6_goBack yX6_goBack 7 [.ref 0, .int (nI 0)] d r J "java/lang/IllegalStateException" := by
  refine ot_of pl_X6_goBack (Nat.le_of_ble_eq_true rfl) ?_
  refine sw_iload_n (i := 1) dX6_goBack_0 rfl rfl ?_
  refine sw_ic 0 dX6_goBack_1 ?_
  refine sw_ic 1 dX6_goBack_2 ?_
  refine px_Sv ms_X6_86 (A_X6_needRange (a := 0) (lo := 0) (hi := 1) (Nat.zero_le _) (by decide) (by decide)) rfl rfl (Nat.le_of_ble_eq_true rfl) (Nat.le_of_ble_eq_true rfl) (Nat.le_of_ble_eq_true rfl) dX6_goBack_3 ?_
  refine sw_aload_n (i := 0) dX6_goBack_6 rfl rfl ?_
  refine sx_getR (q := 51) f_X6_41 (by decide) kr_0_5 dX6_goBack_7 ?_
  refine sw_iload_n (i := 1) dX6_goBack_10 rfl rfl ?_
  refine sw_ins (pc2 := 11) rfl rfl ?_
  refine sx_zaldE (0) (nI 0) (by rw [rcT0 h, ht]; rfl) rfl rfl (by decide) dX6_goBack_11 ?_
  refine sw_if_ne (tgt := 25) dX6_goBack_12 rfl (fun h9 => absurd (by decide) h9) (fun _ => ?_)
  exact sw_throw (text := "there is no snapshot in the slot") rfl (by decide +kernel) (by decide +kernel) cn_X6_53 ie_57 (by decide +kernel) ot_57 (Nat.le_refl _) (Nat.le_refl _) (Nat.le_of_ble_eq_true rfl) (Nat.le_of_ble_eq_true rfl) rfl dX6_goBack_15 dX6_goBack_18 dX6_goBack_19 dX6_goBack_21 dX6_goBack_24
set_option maxRecDepth 100000 in
set_option maxHeartbeats 4000000 in
theorem C1_goBack {d : Nat → Nat → Int32} {r : Nat → Nat → Option Nat} {J : Nat → Nat → Int64} {V : Nat → Int32} {n : Nat} {H S : Nat → Nat → Int32} {t : Nat → Bool} {T : Nat → Int32} {tl : Nat} (h : RC d r V n H S t T tl) (iv : IV V n H S t T tl) (ht : t 1 = true) : ∃ d1 r1, OP kX6_goBack yX6_goBack 7 [.ref 0, .int (nI 1)] d r J (some (.int (S 1 0))) d1 r1 J ∧ RC d1 r1 (S 1) (psN n) (psH H n V) S t T tl ∧ fm d d1 := by
  obtain ⟨d1, r1, g1, h1, f1⟩ := C_push (J := J) h
  have v1 : cV d1 1 = V := rcV h1
  have fp : fm d d1 := fun c hc => f1 c (by omega)
  obtain ⟨e1, a1, b1, c1⟩ := A_X2_copy (d := d1) (r := r1) (J := J) (b := 1) (e := 59) isB_1 isB_59 (by decide)
  rw [rcS1 h1 ht] at b1
  refine ⟨e1, r1, op_of pl_X6_goBack (Nat.le_of_ble_eq_true rfl) ?_, RC_isl h1 (fun c q1 q2 q3 q4 => c1 c (by omega) (by omega) (by omega) (by omega) (by omega)) b1, fm_trans fp (fun c hc => c1 c (by omega) (by omega) (by omega) (by omega) (by omega))⟩
  refine sw_iload_n (i := 1) dX6_goBack_0 rfl rfl ?_
  refine sw_ic 0 dX6_goBack_1 ?_
  refine sw_ic 1 dX6_goBack_2 ?_
  refine px_Sv ms_X6_86 (A_X6_needRange (a := 1) (lo := 0) (hi := 1) (Nat.zero_le _) (by decide) (by decide)) rfl rfl (Nat.le_of_ble_eq_true rfl) (Nat.le_of_ble_eq_true rfl) (Nat.le_of_ble_eq_true rfl) dX6_goBack_3 ?_
  refine sw_aload_n (i := 0) dX6_goBack_6 rfl rfl ?_
  refine sx_getR (q := 51) f_X6_41 (by decide) kr_0_5 dX6_goBack_7 ?_
  refine sw_iload_n (i := 1) dX6_goBack_10 rfl rfl ?_
  refine sw_ins (pc2 := 11) rfl rfl ?_
  refine sx_zaldE (1) (nI 1) (by rw [rcT1 h, ht]; rfl) rfl rfl (by decide) dX6_goBack_11 ?_
  refine sw_if_ne (tgt := 25) dX6_goBack_12 rfl (fun _ => ?_) (fun h9 => absurd h9 (by decide))
  refine sw_aload_n (i := 0) dX6_goBack_25 rfl rfl ?_
  refine sx_getR (q := 7) f_X6_19 (by decide) kr_0_1 dX6_goBack_26 ?_
  refine sw_aload_n (i := 0) dX6_goBack_29 rfl rfl ?_
  refine sx_getR (q := 1) f_X6_10 (by decide) kr_0_0 dX6_goBack_30 ?_
  refine px_Vv mv_X6_60 g1 rfl rfl (Nat.le_of_ble_eq_true rfl) (Nat.le_of_ble_eq_true rfl) ko_7 (Nat.le_of_ble_eq_true rfl) dX6_goBack_33 ?_
  refine sw_aload_n (i := 0) dX6_goBack_36 rfl rfl ?_
  refine sw_ins (pc2 := 37) rfl rfl ?_
  refine sx_getR (q := 50) f_X6_37 (by decide) kr_0_4 dX6_goBack_37 ?_
  refine sw_iload_n (i := 1) dX6_goBack_40 rfl rfl ?_
  refine sx_aald (q := 59) (1) rfl rfl (by omega) h1.2.2.1.2 dX6_goBack_41 ?_
  refine sw_aload_n (i := 0) dX6_goBack_42 rfl rfl ?_
  refine sx_getR (q := 1) f_X6_10 (by decide) kr_0_0 dX6_goBack_43 ?_
  refine px_Sv ms_X6_151 a1 rfl rfl (Nat.le_of_ble_eq_true rfl) (Nat.le_of_ble_eq_true rfl) (Nat.le_of_ble_eq_true rfl) dX6_goBack_46 ?_
  refine sw_aload_n (i := 0) dX6_goBack_49 rfl rfl ?_
  refine sx_getR (q := 1) f_X6_10 (by decide) kr_0_0 dX6_goBack_50 ?_
  refine sw_ins (pc2 := 53) rfl rfl ?_
  refine sx_getIE ((S 1) 0) ((cV_day e1 1).trans (congrFun b1 0)) f_X6_155 (by decide) kf_1_6 dX6_goBack_53 ?_
  exact sw_ireturn rfl dX6_goBack_56
set_option maxRecDepth 100000 in
set_option maxHeartbeats 4000000 in
theorem T1_goBack {d : Nat → Nat → Int32} {r : Nat → Nat → Option Nat} {J : Nat → Nat → Int64} {V : Nat → Int32} {n : Nat} {H S : Nat → Nat → Int32} {t : Nat → Bool} {T : Nat → Int32} {tl : Nat} (h : RC d r V n H S t T tl) (iv : IV V n H S t T tl) (ht : t 1 = false) : OT kX6_goBack yX6_goBack 7 [.ref 0, .int (nI 1)] d r J "java/lang/IllegalStateException" := by
  refine ot_of pl_X6_goBack (Nat.le_of_ble_eq_true rfl) ?_
  refine sw_iload_n (i := 1) dX6_goBack_0 rfl rfl ?_
  refine sw_ic 0 dX6_goBack_1 ?_
  refine sw_ic 1 dX6_goBack_2 ?_
  refine px_Sv ms_X6_86 (A_X6_needRange (a := 1) (lo := 0) (hi := 1) (Nat.zero_le _) (by decide) (by decide)) rfl rfl (Nat.le_of_ble_eq_true rfl) (Nat.le_of_ble_eq_true rfl) (Nat.le_of_ble_eq_true rfl) dX6_goBack_3 ?_
  refine sw_aload_n (i := 0) dX6_goBack_6 rfl rfl ?_
  refine sx_getR (q := 51) f_X6_41 (by decide) kr_0_5 dX6_goBack_7 ?_
  refine sw_iload_n (i := 1) dX6_goBack_10 rfl rfl ?_
  refine sw_ins (pc2 := 11) rfl rfl ?_
  refine sx_zaldE (1) (nI 0) (by rw [rcT1 h, ht]; rfl) rfl rfl (by decide) dX6_goBack_11 ?_
  refine sw_if_ne (tgt := 25) dX6_goBack_12 rfl (fun h9 => absurd (by decide) h9) (fun _ => ?_)
  exact sw_throw (text := "there is no snapshot in the slot") rfl (by decide +kernel) (by decide +kernel) cn_X6_53 ie_57 (by decide +kernel) ot_57 (Nat.le_refl _) (Nat.le_refl _) (Nat.le_of_ble_eq_true rfl) (Nat.le_of_ble_eq_true rfl) rfl dX6_goBack_15 dX6_goBack_18 dX6_goBack_19 dX6_goBack_21 dX6_goBack_24
set_option maxRecDepth 100000 in
set_option maxHeartbeats 4000000 in
theorem T_goBack {d : Nat → Nat → Int32} {r : Nat → Nat → Option Nat} {J : Nat → Nat → Int64} {V : Nat → Int32} {n : Nat} {H S : Nat → Nat → Int32} {t : Nat → Bool} {T : Nat → Int32} {tl : Nat} (h : RC d r V n H S t T tl) (iv : IV V n H S t T tl) {x : Int32} (hx : x < nI 0 ∨ ¬ x ≤ nI 1) : OT kX6_goBack yX6_goBack 7 [.ref 0, .int x] d r J "java/lang/IllegalArgumentException" := by
  refine ot_of pl_X6_goBack (Nat.le_of_ble_eq_true rfl) ?_
  refine sw_iload_n (i := 1) dX6_goBack_0 rfl rfl ?_
  refine sw_ic 0 dX6_goBack_1 ?_
  refine sw_ic 1 dX6_goBack_2 ?_
  exact px_ST ms_X6_86 (T_X6_needRange hx) rfl rfl (Nat.le_of_ble_eq_true rfl) (Nat.le_of_ble_eq_true rfl) (Nat.le_of_ble_eq_true rfl) dX6_goBack_3
set_option maxRecDepth 100000 in
set_option maxHeartbeats 4000000 in
theorem C_undo {d : Nat → Nat → Int32} {r : Nat → Nat → Option Nat} {J : Nat → Nat → Int64} {V : Nat → Int32} {n : Nat} {H S : Nat → Nat → Int32} {t : Nat → Bool} {T : Nat → Int32} {tl : Nat} (h : RC d r V n H S t T tl) (iv : IV V n H S t T tl) (h0 : 1 ≤ n) : ∃ d1 r1, OP kX6_undo yX6_undo 6 [.ref 0] d r J (some (.int (nI (n - 1)))) d1 r1 J ∧ RC d1 r1 (H (n - 1)) (n - 1) H S t T tl ∧ fm d d1 := by
  have h6 := rc6 h
  obtain ⟨e1, a1, b1, c1, f1⟩ := A_X1_pop (d := d) (r := r) (J := J) (n := n) h.1 h0 h6 (rcN h)
  rw [rcH h (n - 1) (by omega)] at c1
  refine ⟨e1, r, op_of pl_X6_undo (Nat.le_of_ble_eq_true rfl) ?_, ⟨h.1, by omega, h.2.2.1, c1, b1, fun i hi => ?_, ⟨fun q => ?_, fun q => ?_⟩, ⟨?_, ?_⟩, ?_, ?_⟩, fun c hc => f1 c (by omega)⟩
  ·
    refine sw_aload_n (i := 0) dX6_undo_0 rfl rfl ?_
    refine sx_getR (q := 7) f_X6_19 (by decide) kr_0_1 dX6_undo_1 ?_
    refine sx_getIE (nI n) (rcN h) f_X6_160 (by decide) kf_7_1 dX6_undo_4 ?_
    refine sw_if_gt (tgt := 20) dX6_undo_7 rfl (fun _ => ?_) (fun h9 => absurd (nI_lt (a := 0) h0 (by omega)) h9)
    refine sw_aload_n (i := 0) dX6_undo_20 rfl rfl ?_
    refine sx_getR (q := 7) f_X6_19 (by decide) kr_0_1 dX6_undo_21 ?_
    refine sw_aload_n (i := 0) dX6_undo_24 rfl rfl ?_
    refine sw_ins (pc2 := 25) rfl rfl ?_
    refine sx_getR (q := 1) f_X6_10 (by decide) kr_0_0 dX6_undo_25 ?_
    refine px_Vv mv_X6_165 a1 rfl rfl (Nat.le_of_ble_eq_true rfl) (Nat.le_of_ble_eq_true rfl) ko_7 (Nat.le_of_ble_eq_true rfl) dX6_undo_28 ?_
    refine sw_aload_n (i := 0) dX6_undo_31 rfl rfl ?_
    refine sx_getR (q := 7) f_X6_19 (by decide) kr_0_1 dX6_undo_32 ?_
    refine sx_getIE (nI (n - 1)) b1 f_X6_160 (by decide) kf_7_1 dX6_undo_35 ?_
    exact sw_ireturn rfl dX6_undo_38
  · have hs := (h.1.1 i (by omega)).2.2
    exact (cV_keep (fun c hc => f1 c (by omega))).trans (rcH h i (by omega))
  · exact (cV_keep (fun c hc => f1 c (by omega))).trans (rcS0 h q)
  · exact (cV_keep (fun c hc => f1 c (by omega))).trans (rcS1 h q)
  · rw [f1 51 (by decide)]
    exact rcT0 h
  · rw [f1 51 (by decide)]
    exact rcT1 h
  · rw [f1 48 (by decide)]
    exact rcL h
  · rw [f1 49 (by decide)]
    exact rcT h
set_option maxRecDepth 100000 in
set_option maxHeartbeats 4000000 in
theorem T_undo {d : Nat → Nat → Int32} {r : Nat → Nat → Option Nat} {J : Nat → Nat → Int64} {V : Nat → Int32} {n : Nat} {H S : Nat → Nat → Int32} {t : Nat → Bool} {T : Nat → Int32} {tl : Nat} (h : RC d r V n H S t T tl) (iv : IV V n H S t T tl) (h0 : n = 0) : OT kX6_undo yX6_undo 6 [.ref 0] d r J "java/lang/IllegalStateException" := by
  refine ot_of pl_X6_undo (Nat.le_of_ble_eq_true rfl) ?_
  subst h0
  refine sw_aload_n (i := 0) dX6_undo_0 rfl rfl ?_
  refine sx_getR (q := 7) f_X6_19 (by decide) kr_0_1 dX6_undo_1 ?_
  refine sx_getIE (nI 0) (rcN h) f_X6_160 (by decide) kf_7_1 dX6_undo_4 ?_
  refine sw_if_gt (tgt := 20) dX6_undo_7 rfl (fun h9 => absurd h9 (by decide)) (fun _ => ?_)
  exact sw_throw (text := "there is no saved state") rfl (by decide +kernel) (by decide +kernel) cn_X6_53 ie_57 (by decide +kernel) ot_57 (Nat.le_refl _) (Nat.le_refl _) (Nat.le_of_ble_eq_true rfl) (Nat.le_of_ble_eq_true rfl) rfl dX6_undo_10 dX6_undo_13 dX6_undo_14 dX6_undo_16 dX6_undo_19
