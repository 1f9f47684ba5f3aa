/-! THE CLASS'S CALLS, 3: caps, islanderOf, count, promiseOf, owed, where, homeIn, fewest (own work, written by wip/tools) -/
def pwN (V : Nat → Int32) (a : Nat) : Nat := cp V a 0 * wt V 0 + cp V a 1 * wt V 1 + cp V a 2 * wt V 2 + cp V a 3 * wt V 3
def wsm (V : Nat → Int32) : Nat := wt V 0 + wt V 1 + wt V 2 + wt V 3
theorem pw_nI {V : Nat → Int32} (okc : okCaps V) (okw : okWorth V) {a : Nat} (ha : a < 8) : pw V a = nI (pwN V a) := by
  unfold pw pwN
  rw [okc.1 (a * 4 + 0) (by omega), okc.1 (a * 4 + 1) (by omega), okc.1 (a * 4 + 2) (by omega), okc.1 (a * 4 + 3) (by omega), (okw 0 (by decide)).1, (okw 1 (by decide)).1, (okw 2 (by decide)).1, (okw 3 (by decide)).1]
  simp only [pk_mul, nI_add]
  congr 1
  show 0 + cp V a 0 * wt V 0 + cp V a 1 * wt V 1 + cp V a 2 * wt V 2 + cp V a 3 * wt V 3 = _
  omega
theorem sm_mul (a b c d e f g h w : Nat) (q : a + b + c + d + e + f + g + h = 20) : a * w + b * w + c * w + d * w + e * w + f * w + g * w + h * w = 20 * w := by
  rw [← q]
  simp only [Nat.add_mul]
theorem pw_sum {V : Nat → Int32} (okc : okCaps V) : pwN V 0 + pwN V 1 + pwN V 2 + pwN V 3 + pwN V 4 + pwN V 5 + pwN V 6 + pwN V 7 = 20 * wsm V := by
  have q : ∀ c, c < 4 → cp V 0 c * wt V c + cp V 1 c * wt V c + cp V 2 c * wt V c + cp V 3 c * wt V c + cp V 4 c * wt V c + cp V 5 c * wt V c + cp V 6 c * wt V c + cp V 7 c * wt V c = 20 * wt V c := fun c hc => sm_mul _ _ _ _ _ _ _ _ _ (okc.2 c hc)
  have q0 := q 0 (by decide)
  have q1 := q 1 (by decide)
  have q2 := q 2 (by decide)
  have q3 := q 3 (by decide)
  unfold pwN wsm
  omega
theorem aw_nI {V : Nat → Int32} (okc : okCaps V) (okw : okWorth V) : aw8 V = nI (20 * wsm V) := by
  unfold aw8
  rw [pw_nI okc okw (a := 0) (by decide), pw_nI okc okw (a := 1) (by decide), pw_nI okc okw (a := 2) (by decide), pw_nI okc okw (a := 3) (by decide), pw_nI okc okw (a := 4) (by decide), pw_nI okc okw (a := 5) (by decide), pw_nI okc okw (a := 6) (by decide), pw_nI okc okw (a := 7) (by decide)]
  simp only [nI_add]
  rw [← pw_sum okc]
  congr 1
  omega
theorem wsm_b {V : Nat → Int32} (okw : okWorth V) : 4 ≤ wsm V ∧ wsm V ≤ 36 := by
  have w0 : 1 ≤ wt V 0 ∧ wt V 0 ≤ 9 := (okw 0 (by decide)).2
  have w1 : 1 ≤ wt V 1 ∧ wt V 1 ≤ 9 := (okw 1 (by decide)).2
  have w2 : 1 ≤ wt V 2 ∧ wt V 2 ≤ 9 := (okw 2 (by decide)).2
  have w3 : 1 ≤ wt V 3 ∧ wt V 3 ≤ 9 := (okw 3 (by decide)).2
  unfold wsm
  omega
theorem pw_le {V : Nat → Int32} (okc : okCaps V) (okw : okWorth V) {a : Nat} (ha : a < 8) : pwN V a ≤ 20 * wsm V := by
  have h := pw_sum okc
  have e : a = 0 ∨ a = 1 ∨ a = 2 ∨ a = 3 ∨ a = 4 ∨ a = 5 ∨ a = 6 ∨ a = 7 := by omega
  rcases e with e | e | e | e | e | e | e | e <;> subst e <;> omega
theorem alg_mod {V : Nat → Int32} (h : okPath V) {a : Nat} (ha : a < 8) (k : Nat) : alg V a (k % crc V a) = alg V a k := by
  have e := Nat.div_add_mod k (crc V a)
  have e2 : alg V a (crc V a * (k / crc V a) + k % crc V a) = alg V a (k % crc V a) := by rw [alg_add, alg_mul h ha]
  rw [e] at e2
  exact e2.symm
def rcG (V : Nat → Int32) : Nat → Nat
  | 0 => 0
  | i + 1 => if pw V (rcG V i) < pw V i then i else rcG V i
theorem rcG_1 (V : Nat → Int32) : rcG V 1 = 0 := by
  show (if pw V 0 < pw V 0 then 0 else 0) = 0
  by_cases c : pw V 0 < pw V 0
  · rw [if_pos c]
  · rw [if_neg c]
theorem rcG_lt (V : Nat → Int32) : ∀ i, i ≤ 8 → rcG V i < 8
  | 0, _ => Nat.zero_lt_succ 7
  | i + 1, h => by
    show (if pw V (rcG V i) < pw V i then i else rcG V i) < 8
    by_cases c : pw V (rcG V i) < pw V i
    · rw [if_pos c]; omega
    · rw [if_neg c]; exact rcG_lt V i (by omega)
def rch (V : Nat → Int32) : Nat := rcG V 8
theorem rch_lt (V : Nat → Int32) : rch V < 8 := rcG_lt V 8 (Nat.le_refl _)
theorem rcG_max {V : Nat → Int32} (okc : okCaps V) (okw : okWorth V) : ∀ i, i ≤ 8 → ∀ j, j < i → pwN V j ≤ pwN V (rcG V i)
  | 0, _, j, h => absurd h (by omega)
  | i + 1, hi, j, h => by
    have ih := rcG_max okc okw i (by omega)
    have hb := wsm_b okw
    have l1 := pw_le okc okw (rcG_lt V i (by omega))
    have l2 := pw_le okc okw (a := i) (by omega)
    show pwN V j ≤ pwN V (if pw V (rcG V i) < pw V i then i else rcG V i)
    by_cases c : pw V (rcG V i) < pw V i
    · rw [if_pos c]
      rw [pw_nI okc okw (rcG_lt V i (by omega)), pw_nI okc okw (a := i) (by omega)] at c
      have c2 := (nI_ltI (by omega) (by omega)).mp c
      by_cases e : j = i
      · rw [e]; exact Nat.le_refl _
      · have := ih j (by omega)
        omega
    · rw [if_neg c]
      rw [pw_nI okc okw (rcG_lt V i (by omega)), pw_nI okc okw (a := i) (by omega)] at c
      by_cases e : j = i
      · rw [e]
        apply Classical.byContradiction
        intro q
        exact c (nI_lt (by omega) (by omega))
      · exact ih j (by omega)
theorem rch_pos {V : Nat → Int32} (okc : okCaps V) (okw : okWorth V) : 1 ≤ pwN V (rch V) := by
  have h := pw_sum okc
  have hb := wsm_b okw
  have q := rcG_max okc okw 8 (Nat.le_refl _)
  have q0 := q 0 (by decide)
  have q1 := q 1 (by decide)
  have q2 := q 2 (by decide)
  have q3 := q 3 (by decide)
  have q4 := q 4 (by decide)
  have q5 := q 5 (by decide)
  have q6 := q 6 (by decide)
  have q7 := q 7 (by decide)
  unfold rch
  omega
/-- the share of the richest -/
def shr (V : Nat → Int32) : UInt64 := shD (pwN V (rch V)) (20 * wsm V)
theorem shr_bits {V : Nat → Int32} (okc : okCaps V) (okw : okWorth V) : ∃ E t, (shr V).toNat = E * 2 ^ 52 + t ∧ t < 2 ^ 52 ∧ 1013 ≤ E ∧ E ≤ 1023 :=
  shD_bits (wsm_b okw).1 (wsm_b okw).2 (rch_pos okc okw) (pw_le okc okw (rch_lt V))
theorem shr_n64 {V : Nat → Int32} (okc : okCaps V) (okw : okWorth V) : vf_n64 (shr V) := by
  obtain ⟨E, t, h1, h2, h3, h4⟩ := shr_bits okc okw
  exact n64_sh h1 h2 (by omega)
def isl (V : Nat → Int32) (a k : Nat) : Int32 := match k with
  | 0 => pw V a
  | 1 => V (11 + a)
  | 2 => nI (crc V a)
  | 3 => smt V (fun q => decide (V (51 + (q * 4 + 0)) = nI a)) (nv V 1)
  | _ => smt V (fun q => decide (V (51 + (q * 4 + 1)) = nI a)) (nv V 1)
noncomputable def pro (V : Nat → Int32) (q k : Nat) : Int32 := if k < 4 then V (51 + (q * 4 + k)) else enc (wy V (prt V q 0) (prt V q 2))
def owd (V : Nat → Int32) (f t : Nat) : Int32 := smt V (fun q => decide (V (51 + (q * 4 + 0)) = nI f) && decide (V (51 + (q * 4 + 1)) = nI t)) (nv V 1)
def cnt (V : Nat → Int32) (n : Nat) (k : Nat) : Int32 := match k with
  | 0 => V 0
  | 1 => rs (fun x => V (19 + x)) 32
  | 2 => aw8 V
  | 3 => V 1
  | 4 => V 2
  | 5 => V 3
  | 6 => V 4
  | 7 => V 5
  | 8 => V 6
  | _ => nI n
noncomputable def ckG (V : Nat → Int32) (s : Nat) : Nat → Nat → Nat → Int32
  | 0, _, _ => -1
  | f + 1, a, k => match wy V a s with
    | none => ckG V s f (snd V a) (k + 1)
    | some _ => nI k
noncomputable def ckp (V : Nat → Int32) (q : Nat) : Int32 := ckG V (prt V q 2) (min (prt V q 3) 9999 + 1 - nv V 0) (prt V q 0) 0
theorem ckG_none {V : Nat → Int32} {s f a k : Nat} (h : wy V a s = none) : ckG V s (f + 1) a k = ckG V s f (snd V a) (k + 1) := by
  show (match wy V a s with | none => ckG V s f (snd V a) (k + 1) | some _ => nI k) = _
  rw [h]
theorem ckG_some {V : Nat → Int32} {s f a k : Nat} {w : Nat × Nat × Nat × Nat} (h : wy V a s = some w) : ckG V s (f + 1) a k = nI k := by
  show (match wy V a s with | none => ckG V s f (snd V a) (k + 1) | some _ => nI k) = _
  rw [h]
theorem sub_lt {L D k : Nat} (hL : L < 2 ^ 20) (hD : D < 2 ^ 20) (hk : k < 2 ^ 20) : nI L - nI D < nI k ↔ L < D + k := by
  rw [Int32.lt_iff_toInt_lt, Int32.toInt_sub, nI_toInt (by omega), nI_toInt (by omega), nI_toInt (by omega)]
  rw [Int.bmod_eq_of_le (by omega) (by omega)]
  omega
theorem RC_dup {d : Nat → Nat → Int32} {r : Nat → Nat → Option Nat} {V : Nat → Int32} {n : Nat} {H S : Nat → Nat → Int32} {t : Nat → Bool} {T : Nat → Int32} {tl c : Nat} {f : Nat → Int32} (h : RC d r V n H S t T tl) (hc : c = 46 ∨ c = 52) : RC (dup d c f) r V n H S t T tl :=
  RC_isl h (fun q q1 q2 q3 q4 => dup_ne _ _ (by omega)) ((cV_keep (fun q hq => dup_ne _ _ (by omega))).trans (rcV h))
theorem fm_dup {d : Nat → Nat → Int32} {c : Nat} {f : Nat → Int32} (hc : c < 65) : fm d (dup d c f) := fun q hq => dup_ne _ _ (by omega)
set_option maxRecDepth 100000 in
set_option maxHeartbeats 4000000 in
theorem C_caps {d : Nat → Nat → Int32} {r : Nat → Nat → Option Nat} {J : Nat → Nat → Int64} {V : Nat → Int32} {n : Nat} {H S : Nat → Nat → Int32} {t : Nat → Bool} {T : Nat → Int32} {tl : Nat} (h : RC d r V n H S t T tl) (iv : IV V n H S t T tl) {a c : Nat} (ha : a < 8) (hc : c < 4) : ∃ d1, OP kX6_caps yX6_caps 7 [.ref 0, .int (nI a), .int (nI c)] d r J (some (.int (V (19 + (a * 4 + c))))) d1 r J ∧ RC d1 r V n H S t T tl ∧ fm d d1 := by
  have hx := A_X2_capsOf (d := d) (r := r) (J := J) (b := 1) (a := a) (c := c) isB_1 ha hc
  rw [rcV h] at hx
  refine ⟨d, op_of pl_X6_caps (Nat.le_of_ble_eq_true rfl) ?_, h, fm_refl d⟩
  refine sw_iload_n (i := 1) dX6_caps_0 rfl rfl ?_
  refine px_Sv ms_X6_68 (A_X6_needIslander ha) rfl rfl (Nat.le_of_ble_eq_true rfl) (Nat.le_of_ble_eq_true rfl) (Nat.le_of_ble_eq_true rfl) dX6_caps_1 ?_
  refine sw_iload_n (i := 2) dX6_caps_4 rfl rfl ?_
  refine px_Sv ms_X6_80 (A_X6_needColour hc) rfl rfl (Nat.le_of_ble_eq_true rfl) (Nat.le_of_ble_eq_true rfl) (Nat.le_of_ble_eq_true rfl) dX6_caps_5 ?_
  refine sw_aload_n (i := 0) dX6_caps_8 rfl rfl ?_
  refine sx_getR (q := 1) f_X6_10 (by decide) kr_0_0 dX6_caps_9 ?_
  refine sw_iload_n (i := 1) dX6_caps_12 rfl rfl ?_
  refine sw_ins (pc2 := 13) rfl rfl ?_
  refine sw_iload_n (i := 2) dX6_caps_13 rfl rfl ?_
  refine px_Vx mv_X6_168 hx rfl rfl (Nat.le_of_ble_eq_true rfl) (Nat.le_of_ble_eq_true rfl) ko_1 (Nat.le_of_ble_eq_true rfl) dX6_caps_14 ?_
  exact sw_ireturn rfl dX6_caps_17
set_option maxRecDepth 100000 in
set_option maxHeartbeats 4000000 in
theorem C0_islanderOf {d : Nat → Nat → Int32} {r : Nat → Nat → Option Nat} {J : Nat → Nat → Int64} {V : Nat → Int32} {n : Nat} {H S : Nat → Nat → Int32} {t : Nat → Bool} {T : Nat → Int32} {tl : Nat} (h : RC d r V n H S t T tl) (iv : IV V n H S t T tl) {a : Nat} (ha : a < 8) : ∃ d1, OP kX6_islanderOf yX6_islanderOf 7 [.ref 0, .int (nI a), .int (nI 0)] d r J (some (.int (isl V a 0))) d1 r J ∧ RC d1 r V n H S t T tl ∧ fm d d1 := by
  have hx := A_X2_purseWorth (d := d) (r := r) (J := J) (b := 1) (a := a) isB_1 ha
  rw [rcV h] at hx
  refine ⟨d, op_of pl_X6_islanderOf (Nat.le_of_ble_eq_true rfl) ?_, h, fm_refl d⟩
  refine sw_iload_n (i := 1) dX6_islanderOf_0 rfl rfl ?_
  refine px_Sv ms_X6_68 (A_X6_needIslander ha) rfl rfl (Nat.le_of_ble_eq_true rfl) (Nat.le_of_ble_eq_true rfl) (Nat.le_of_ble_eq_true rfl) dX6_islanderOf_1 ?_
  refine sw_iload_n (i := 2) dX6_islanderOf_4 rfl rfl ?_
  refine sw_tabIn (off := 35) (tgt := 40) dX6_islanderOf_5 (by decide) (by decide) (by decide) (by decide) ?_
  refine sw_aload_n (i := 0) dX6_islanderOf_40 rfl rfl ?_
  refine sx_getR (q := 1) f_X6_10 (by decide) kr_0_0 dX6_islanderOf_41 ?_
  refine sw_iload_n (i := 1) dX6_islanderOf_44 rfl rfl ?_
  refine sw_ins (pc2 := 45) rfl rfl ?_
  refine px_Vx mv_X6_172 hx rfl rfl (Nat.le_of_ble_eq_true rfl) (Nat.le_of_ble_eq_true rfl) ko_1 (Nat.le_of_ble_eq_true rfl) dX6_islanderOf_45 ?_
  exact sw_ireturn rfl dX6_islanderOf_48
set_option maxRecDepth 100000 in
set_option maxHeartbeats 4000000 in
theorem C1_islanderOf {d : Nat → Nat → Int32} {r : Nat → Nat → Option Nat} {J : Nat → Nat → Int64} {V : Nat → Int32} {n : Nat} {H S : Nat → Nat → Int32} {t : Nat → Bool} {T : Nat → Int32} {tl : Nat} (h : RC d r V n H S t T tl) (iv : IV V n H S t T tl) {a : Nat} (ha : a < 8) : ∃ d1, OP kX6_islanderOf yX6_islanderOf 7 [.ref 0, .int (nI a), .int (nI 1)] d r J (some (.int (isl V a 1))) d1 r J ∧ RC d1 r V n H S t T tl ∧ fm d d1 := by
  have hx := A_X2_leadsTo (d := d) (r := r) (J := J) (b := 1) (a := a) isB_1 ha
  rw [rcV h] at hx
  refine ⟨d, op_of pl_X6_islanderOf (Nat.le_of_ble_eq_true rfl) ?_, h, fm_refl d⟩
  refine sw_iload_n (i := 1) dX6_islanderOf_0 rfl rfl ?_
  refine px_Sv ms_X6_68 (A_X6_needIslander ha) rfl rfl (Nat.le_of_ble_eq_true rfl) (Nat.le_of_ble_eq_true rfl) (Nat.le_of_ble_eq_true rfl) dX6_islanderOf_1 ?_
  refine sw_iload_n (i := 2) dX6_islanderOf_4 rfl rfl ?_
  refine sw_tabIn (off := 44) (tgt := 49) dX6_islanderOf_5 (by decide) (by decide) (by decide) (by decide) ?_
  refine sw_aload_n (i := 0) dX6_islanderOf_49 rfl rfl ?_
  refine sx_getR (q := 1) f_X6_10 (by decide) kr_0_0 dX6_islanderOf_50 ?_
  refine sw_iload_n (i := 1) dX6_islanderOf_53 rfl rfl ?_
  refine sw_ins (pc2 := 54) rfl rfl ?_
  refine px_Vx mv_X6_76 hx rfl rfl (Nat.le_of_ble_eq_true rfl) (Nat.le_of_ble_eq_true rfl) ko_1 (Nat.le_of_ble_eq_true rfl) dX6_islanderOf_54 ?_
  exact sw_ireturn rfl dX6_islanderOf_57
set_option maxRecDepth 100000 in
set_option maxHeartbeats 4000000 in
theorem C2_islanderOf {d : Nat → Nat → Int32} {r : Nat → Nat → Option Nat} {J : Nat → Nat → Int64} {V : Nat → Int32} {n : Nat} {H S : Nat → Nat → Int32} {t : Nat → Bool} {T : Nat → Int32} {tl : Nat} (h : RC d r V n H S t T tl) (iv : IV V n H S t T tl) {a : Nat} (ha : a < 8) : ∃ d1, OP kX6_islanderOf yX6_islanderOf 7 [.ref 0, .int (nI a), .int (nI 2)] d r J (some (.int (isl V a 2))) d1 r J ∧ RC d1 r V n H S t T tl ∧ fm d d1 := by
  have hx := A_X2_circle (d := d) (r := r) (J := J) (b := 1) (a := a) isB_1 (rcP h iv) ha
  rw [rcV h] at hx
  refine ⟨d, op_of pl_X6_islanderOf (Nat.le_of_ble_eq_true rfl) ?_, h, fm_refl d⟩
  refine sw_iload_n (i := 1) dX6_islanderOf_0 rfl rfl ?_
  refine px_Sv ms_X6_68 (A_X6_needIslander ha) rfl rfl (Nat.le_of_ble_eq_true rfl) (Nat.le_of_ble_eq_true rfl) (Nat.le_of_ble_eq_true rfl) dX6_islanderOf_1 ?_
  refine sw_iload_n (i := 2) dX6_islanderOf_4 rfl rfl ?_
  refine sw_tabIn (off := 53) (tgt := 58) dX6_islanderOf_5 (by decide) (by decide) (by decide) (by decide) ?_
  refine sw_aload_n (i := 0) dX6_islanderOf_58 rfl rfl ?_
  refine sx_getR (q := 1) f_X6_10 (by decide) kr_0_0 dX6_islanderOf_59 ?_
  refine sw_iload_n (i := 1) dX6_islanderOf_62 rfl rfl ?_
  refine sw_ins (pc2 := 63) rfl rfl ?_
  refine px_Vx mv_X6_175 hx rfl rfl (Nat.le_of_ble_eq_true rfl) (Nat.le_of_ble_eq_true rfl) ko_1 (Nat.le_of_ble_eq_true rfl) dX6_islanderOf_63 ?_
  exact sw_ireturn rfl dX6_islanderOf_66
set_option maxRecDepth 100000 in
set_option maxHeartbeats 4000000 in
theorem C3_islanderOf {d : Nat → Nat → Int32} {r : Nat → Nat → Option Nat} {J : Nat → Nat → Int64} {V : Nat → Int32} {n : Nat} {H S : Nat → Nat → Int32} {t : Nat → Bool} {T : Nat → Int32} {tl : Nat} (h : RC d r V n H S t T tl) (iv : IV V n H S t T tl) {a : Nat} (ha : a < 8) : ∃ d1, OP kX6_islanderOf yX6_islanderOf 7 [.ref 0, .int (nI a), .int (nI 3)] d r J (some (.int (isl V a 3))) d1 r J ∧ RC d1 r V n H S t T tl ∧ fm d d1 := by
  have hx := A_X2_sumOf (d := d) (r := r) (J := J) (b := 1) (s := 0) (a := a) isB_1 (rcM h iv) (by decide)
  rw [rcV h] at hx
  refine ⟨d, op_of pl_X6_islanderOf (Nat.le_of_ble_eq_true rfl) ?_, h, fm_refl d⟩
  refine sw_iload_n (i := 1) dX6_islanderOf_0 rfl rfl ?_
  refine px_Sv ms_X6_68 (A_X6_needIslander ha) rfl rfl (Nat.le_of_ble_eq_true rfl) (Nat.le_of_ble_eq_true rfl) (Nat.le_of_ble_eq_true rfl) dX6_islanderOf_1 ?_
  refine sw_iload_n (i := 2) dX6_islanderOf_4 rfl rfl ?_
  refine sw_tabIn (off := 62) (tgt := 67) dX6_islanderOf_5 (by decide) (by decide) (by decide) (by decide) ?_
  refine sw_aload_n (i := 0) dX6_islanderOf_67 rfl rfl ?_
  refine sx_getR (q := 1) f_X6_10 (by decide) kr_0_0 dX6_islanderOf_68 ?_
  refine sw_ic 0 dX6_islanderOf_71 ?_
  refine sw_ins (pc2 := 72) rfl rfl ?_
  refine sw_iload_n (i := 1) dX6_islanderOf_72 rfl rfl ?_
  refine px_Vx mv_X6_178 hx rfl rfl (Nat.le_of_ble_eq_true rfl) (Nat.le_of_ble_eq_true rfl) ko_1 (Nat.le_of_ble_eq_true rfl) dX6_islanderOf_73 ?_
  exact sw_ireturn rfl dX6_islanderOf_76
set_option maxRecDepth 100000 in
set_option maxHeartbeats 4000000 in
theorem C4_islanderOf {d : Nat → Nat → Int32} {r : Nat → Nat → Option Nat} {J : Nat → Nat → Int64} {V : Nat → Int32} {n : Nat} {H S : Nat → Nat → Int32} {t : Nat → Bool} {T : Nat → Int32} {tl : Nat} (h : RC d r V n H S t T tl) (iv : IV V n H S t T tl) {a : Nat} (ha : a < 8) : ∃ d1, OP kX6_islanderOf yX6_islanderOf 7 [.ref 0, .int (nI a), .int (nI 4)] d r J (some (.int (isl V a 4))) d1 r J ∧ RC d1 r V n H S t T tl ∧ fm d d1 := by
  have hx := A_X2_sumOf (d := d) (r := r) (J := J) (b := 1) (s := 1) (a := a) isB_1 (rcM h iv) (by decide)
  rw [rcV h] at hx
  refine ⟨d, op_of pl_X6_islanderOf (Nat.le_of_ble_eq_true rfl) ?_, h, fm_refl d⟩
  refine sw_iload_n (i := 1) dX6_islanderOf_0 rfl rfl ?_
  refine px_Sv ms_X6_68 (A_X6_needIslander ha) rfl rfl (Nat.le_of_ble_eq_true rfl) (Nat.le_of_ble_eq_true rfl) (Nat.le_of_ble_eq_true rfl) dX6_islanderOf_1 ?_
  refine sw_iload_n (i := 2) dX6_islanderOf_4 rfl rfl ?_
  refine sw_tabIn (off := 72) (tgt := 77) dX6_islanderOf_5 (by decide) (by decide) (by decide) (by decide) ?_
  refine sw_aload_n (i := 0) dX6_islanderOf_77 rfl rfl ?_
  refine sx_getR (q := 1) f_X6_10 (by decide) kr_0_0 dX6_islanderOf_78 ?_
  refine sw_ic 1 dX6_islanderOf_81 ?_
  refine sw_ins (pc2 := 82) rfl rfl ?_
  refine sw_iload_n (i := 1) dX6_islanderOf_82 rfl rfl ?_
  refine px_Vx mv_X6_178 hx rfl rfl (Nat.le_of_ble_eq_true rfl) (Nat.le_of_ble_eq_true rfl) ko_1 (Nat.le_of_ble_eq_true rfl) dX6_islanderOf_83 ?_
  exact sw_ireturn rfl dX6_islanderOf_86
set_option maxRecDepth 100000 in
set_option maxHeartbeats 4000000 in
theorem C_islanderOf {d : Nat → Nat → Int32} {r : Nat → Nat → Option Nat} {J : Nat → Nat → Int64} {V : Nat → Int32} {n : Nat} {H S : Nat → Nat → Int32} {t : Nat → Bool} {T : Nat → Int32} {tl : Nat} (h : RC d r V n H S t T tl) (iv : IV V n H S t T tl) {a k : Nat} (ha : a < 8) (hk : k < 5) : ∃ d1, OP kX6_islanderOf yX6_islanderOf 7 [.ref 0, .int (nI a), .int (nI k)] d r J (some (.int (isl V a k))) d1 r J ∧ RC d1 r V n H S t T tl ∧ fm d d1 := by
  match k, hk with
  | 0, _ => exact C0_islanderOf h iv ha
  | 1, _ => exact C1_islanderOf h iv ha
  | 2, _ => exact C2_islanderOf h iv ha
  | 3, _ => exact C3_islanderOf h iv ha
  | 4, _ => exact C4_islanderOf h iv ha
theorem tab_out {x : Int32} {k : Nat} (hk : 1 ≤ k) (hk2 : k < 2 ^ 20) (h : x < 0 ∨ ¬ x < nI k) : x.toInt < 0 ∨ ((k : Int) - 1) < x.toInt := by
  rcases h with h | h
  · exact Or.inl (Int32.lt_iff_toInt_lt.mp h)
  · refine Or.inr ?_
    have h2 : ¬ x.toInt < (nI k).toInt := fun q => h (Int32.lt_iff_toInt_lt.mpr q)
    rw [nI_toInt (by omega)] at h2
    omega
set_option maxRecDepth 100000 in
set_option maxHeartbeats 4000000 in
theorem C0_count {d : Nat → Nat → Int32} {r : Nat → Nat → Option Nat} {J : Nat → Nat → Int64} {V : Nat → Int32} {n : Nat} {H S : Nat → Nat → Int32} {t : Nat → Bool} {T : Nat → Int32} {tl : Nat} (h : RC d r V n H S t T tl) (iv : IV V n H S t T tl)  : ∃ d1, OP kX6_count yX6_count 6 [.ref 0, .int (nI 0)] d r J (some (.int (cnt V n 0))) d1 r J ∧ RC d1 r V n H S t T tl ∧ fm d d1 := by
  refine ⟨d, op_of pl_X6_count (Nat.le_of_ble_eq_true rfl) ?_, h, fm_refl d⟩
  refine sw_iload_n (i := 1) dX6_count_0 rfl rfl ?_
  refine sw_tabIn (off := 55) (tgt := 56) dX6_count_1 (by decide) (by decide) (by decide) (by decide) ?_
  refine sw_aload_n (i := 0) dX6_count_56 rfl rfl ?_
  refine sx_getR (q := 1) f_X6_10 (by decide) kr_0_0 dX6_count_57 ?_
  refine sx_getIE (V 0) ((cV_day d 1).trans (congrFun (rcV h) 0)) f_X6_155 (by decide) kf_1_6 dX6_count_60 ?_
  exact sw_ireturn rfl dX6_count_63
set_option maxRecDepth 100000 in
set_option maxHeartbeats 4000000 in
theorem C1_count {d : Nat → Nat → Int32} {r : Nat → Nat → Option Nat} {J : Nat → Nat → Int64} {V : Nat → Int32} {n : Nat} {H S : Nat → Nat → Int32} {t : Nat → Bool} {T : Nat → Int32} {tl : Nat} (h : RC d r V n H S t T tl) (iv : IV V n H S t T tl)  : ∃ d1, OP kX6_count yX6_count 6 [.ref 0, .int (nI 1)] d r J (some (.int (cnt V n 1))) d1 r J ∧ RC d1 r V n H S t T tl ∧ fm d d1 := by
  have hx := A_X2_allCaps (d := d) (r := r) (J := J) (b := 1) isB_1
  rw [rcV h] at hx
  refine ⟨d, op_of pl_X6_count (Nat.le_of_ble_eq_true rfl) ?_, h, fm_refl d⟩
  refine sw_iload_n (i := 1) dX6_count_0 rfl rfl ?_
  refine sw_tabIn (off := 63) (tgt := 64) dX6_count_1 (by decide) (by decide) (by decide) (by decide) ?_
  refine sw_aload_n (i := 0) dX6_count_64 rfl rfl ?_
  refine sx_getR (q := 1) f_X6_10 (by decide) kr_0_0 dX6_count_65 ?_
  refine px_Vx mv_X6_193 hx rfl rfl (Nat.le_of_ble_eq_true rfl) (Nat.le_of_ble_eq_true rfl) ko_1 (Nat.le_of_ble_eq_true rfl) dX6_count_68 ?_
  exact sw_ireturn rfl dX6_count_71
set_option maxRecDepth 100000 in
set_option maxHeartbeats 4000000 in
theorem C2_count {d : Nat → Nat → Int32} {r : Nat → Nat → Option Nat} {J : Nat → Nat → Int64} {V : Nat → Int32} {n : Nat} {H S : Nat → Nat → Int32} {t : Nat → Bool} {T : Nat → Int32} {tl : Nat} (h : RC d r V n H S t T tl) (iv : IV V n H S t T tl)  : ∃ d1, OP kX6_count yX6_count 6 [.ref 0, .int (nI 2)] d r J (some (.int (cnt V n 2))) d1 r J ∧ RC d1 r V n H S t T tl ∧ fm d d1 := by
  have hx := A_X2_allWorth (d := d) (r := r) (J := J) (b := 1) isB_1
  rw [rcV h] at hx
  refine ⟨d, op_of pl_X6_count (Nat.le_of_ble_eq_true rfl) ?_, h, fm_refl d⟩
  refine sw_iload_n (i := 1) dX6_count_0 rfl rfl ?_
  refine sw_tabIn (off := 71) (tgt := 72) dX6_count_1 (by decide) (by decide) (by decide) (by decide) ?_
  refine sw_aload_n (i := 0) dX6_count_72 rfl rfl ?_
  refine sx_getR (q := 1) f_X6_10 (by decide) kr_0_0 dX6_count_73 ?_
  refine px_Vx mv_X6_196 hx rfl rfl (Nat.le_of_ble_eq_true rfl) (Nat.le_of_ble_eq_true rfl) ko_1 (Nat.le_of_ble_eq_true rfl) dX6_count_76 ?_
  exact sw_ireturn rfl dX6_count_79
set_option maxRecDepth 100000 in
set_option maxHeartbeats 4000000 in
theorem C3_count {d : Nat → Nat → Int32} {r : Nat → Nat → Option Nat} {J : Nat → Nat → Int64} {V : Nat → Int32} {n : Nat} {H S : Nat → Nat → Int32} {t : Nat → Bool} {T : Nat → Int32} {tl : Nat} (h : RC d r V n H S t T tl) (iv : IV V n H S t T tl)  : ∃ d1, OP kX6_count yX6_count 6 [.ref 0, .int (nI 3)] d r J (some (.int (cnt V n 3))) d1 r J ∧ RC d1 r V n H S t T tl ∧ fm d d1 := by
  refine ⟨d, op_of pl_X6_count (Nat.le_of_ble_eq_true rfl) ?_, h, fm_refl d⟩
  refine sw_iload_n (i := 1) dX6_count_0 rfl rfl ?_
  refine sw_tabIn (off := 79) (tgt := 80) dX6_count_1 (by decide) (by decide) (by decide) (by decide) ?_
  refine sw_aload_n (i := 0) dX6_count_80 rfl rfl ?_
  refine sx_getR (q := 1) f_X6_10 (by decide) kr_0_0 dX6_count_81 ?_
  refine sx_getIE (V 1) ((cV_many d 1).trans (congrFun (rcV h) 1)) f_X6_190 (by decide) kf_1_5 dX6_count_84 ?_
  exact sw_ireturn rfl dX6_count_87
set_option maxRecDepth 100000 in
set_option maxHeartbeats 4000000 in
theorem C4_count {d : Nat → Nat → Int32} {r : Nat → Nat → Option Nat} {J : Nat → Nat → Int64} {V : Nat → Int32} {n : Nat} {H S : Nat → Nat → Int32} {t : Nat → Bool} {T : Nat → Int32} {tl : Nat} (h : RC d r V n H S t T tl) (iv : IV V n H S t T tl)  : ∃ d1, OP kX6_count yX6_count 6 [.ref 0, .int (nI 4)] d r J (some (.int (cnt V n 4))) d1 r J ∧ RC d1 r V n H S t T tl ∧ fm d d1 := by
  refine ⟨d, op_of pl_X6_count (Nat.le_of_ble_eq_true rfl) ?_, h, fm_refl d⟩
  refine sw_iload_n (i := 1) dX6_count_0 rfl rfl ?_
  refine sw_tabIn (off := 87) (tgt := 88) dX6_count_1 (by decide) (by decide) (by decide) (by decide) ?_
  refine sw_aload_n (i := 0) dX6_count_88 rfl rfl ?_
  refine sx_getR (q := 1) f_X6_10 (by decide) kr_0_0 dX6_count_89 ?_
  refine sx_getIE (V 2) ((cV_trades d 1).trans (congrFun (rcV h) 2)) f_X6_102 (by decide) kf_1_8 dX6_count_92 ?_
  exact sw_ireturn rfl dX6_count_95
set_option maxRecDepth 100000 in
set_option maxHeartbeats 4000000 in
theorem C5_count {d : Nat → Nat → Int32} {r : Nat → Nat → Option Nat} {J : Nat → Nat → Int64} {V : Nat → Int32} {n : Nat} {H S : Nat → Nat → Int32} {t : Nat → Bool} {T : Nat → Int32} {tl : Nat} (h : RC d r V n H S t T tl) (iv : IV V n H S t T tl)  : ∃ d1, OP kX6_count yX6_count 6 [.ref 0, .int (nI 5)] d r J (some (.int (cnt V n 5))) d1 r J ∧ RC d1 r V n H S t T tl ∧ fm d d1 := by
  refine ⟨d, op_of pl_X6_count (Nat.le_of_ble_eq_true rfl) ?_, h, fm_refl d⟩
  refine sw_iload_n (i := 1) dX6_count_0 rfl rfl ?_
  refine sw_tabIn (off := 95) (tgt := 96) dX6_count_1 (by decide) (by decide) (by decide) (by decide) ?_
  refine sw_aload_n (i := 0) dX6_count_96 rfl rfl ?_
  refine sx_getR (q := 1) f_X6_10 (by decide) kr_0_0 dX6_count_97 ?_
  refine sx_getIE (V 3) ((cV_kept d 1).trans (congrFun (rcV h) 3)) f_X6_199 (by decide) kf_1_9 dX6_count_100 ?_
  exact sw_ireturn rfl dX6_count_103
set_option maxRecDepth 100000 in
set_option maxHeartbeats 4000000 in
theorem C6_count {d : Nat → Nat → Int32} {r : Nat → Nat → Option Nat} {J : Nat → Nat → Int64} {V : Nat → Int32} {n : Nat} {H S : Nat → Nat → Int32} {t : Nat → Bool} {T : Nat → Int32} {tl : Nat} (h : RC d r V n H S t T tl) (iv : IV V n H S t T tl)  : ∃ d1, OP kX6_count yX6_count 6 [.ref 0, .int (nI 6)] d r J (some (.int (cnt V n 6))) d1 r J ∧ RC d1 r V n H S t T tl ∧ fm d d1 := by
  refine ⟨d, op_of pl_X6_count (Nat.le_of_ble_eq_true rfl) ?_, h, fm_refl d⟩
  refine sw_iload_n (i := 1) dX6_count_0 rfl rfl ?_
  refine sw_tabIn (off := 103) (tgt := 104) dX6_count_1 (by decide) (by decide) (by decide) (by decide) ?_
  refine sw_aload_n (i := 0) dX6_count_104 rfl rfl ?_
  refine sx_getR (q := 1) f_X6_10 (by decide) kr_0_0 dX6_count_105 ?_
  refine sx_getIE (V 4) ((cV_broken d 1).trans (congrFun (rcV h) 4)) f_X6_202 (by decide) kf_1_10 dX6_count_108 ?_
  exact sw_ireturn rfl dX6_count_111
set_option maxRecDepth 100000 in
set_option maxHeartbeats 4000000 in
theorem C7_count {d : Nat → Nat → Int32} {r : Nat → Nat → Option Nat} {J : Nat → Nat → Int64} {V : Nat → Int32} {n : Nat} {H S : Nat → Nat → Int32} {t : Nat → Bool} {T : Nat → Int32} {tl : Nat} (h : RC d r V n H S t T tl) (iv : IV V n H S t T tl)  : ∃ d1, OP kX6_count yX6_count 6 [.ref 0, .int (nI 7)] d r J (some (.int (cnt V n 7))) d1 r J ∧ RC d1 r V n H S t T tl ∧ fm d d1 := by
  refine ⟨d, op_of pl_X6_count (Nat.le_of_ble_eq_true rfl) ?_, h, fm_refl d⟩
  refine sw_iload_n (i := 1) dX6_count_0 rfl rfl ?_
  refine sw_tabIn (off := 111) (tgt := 112) dX6_count_1 (by decide) (by decide) (by decide) (by decide) ?_
  refine sw_aload_n (i := 0) dX6_count_112 rfl rfl ?_
  refine sx_getR (q := 1) f_X6_10 (by decide) kr_0_0 dX6_count_113 ?_
  refine sx_getIE (V 5) ((cV_refused d 1).trans (congrFun (rcV h) 5)) f_X6_94 (by decide) kf_1_11 dX6_count_116 ?_
  exact sw_ireturn rfl dX6_count_119
set_option maxRecDepth 100000 in
set_option maxHeartbeats 4000000 in
theorem C8_count {d : Nat → Nat → Int32} {r : Nat → Nat → Option Nat} {J : Nat → Nat → Int64} {V : Nat → Int32} {n : Nat} {H S : Nat → Nat → Int32} {t : Nat → Bool} {T : Nat → Int32} {tl : Nat} (h : RC d r V n H S t T tl) (iv : IV V n H S t T tl)  : ∃ d1, OP kX6_count yX6_count 6 [.ref 0, .int (nI 8)] d r J (some (.int (cnt V n 8))) d1 r J ∧ RC d1 r V n H S t T tl ∧ fm d d1 := by
  refine ⟨d, op_of pl_X6_count (Nat.le_of_ble_eq_true rfl) ?_, h, fm_refl d⟩
  refine sw_iload_n (i := 1) dX6_count_0 rfl rfl ?_
  refine sw_tabIn (off := 119) (tgt := 120) dX6_count_1 (by decide) (by decide) (by decide) (by decide) ?_
  refine sw_aload_n (i := 0) dX6_count_120 rfl rfl ?_
  refine sx_getR (q := 1) f_X6_10 (by decide) kr_0_0 dX6_count_121 ?_
  refine sx_getIE (V 6) ((cV_unfair d 1).trans (congrFun (rcV h) 6)) f_X6_111 (by decide) kf_1_7 dX6_count_124 ?_
  exact sw_ireturn rfl dX6_count_127
set_option maxRecDepth 100000 in
set_option maxHeartbeats 4000000 in
theorem C9_count {d : Nat → Nat → Int32} {r : Nat → Nat → Option Nat} {J : Nat → Nat → Int64} {V : Nat → Int32} {n : Nat} {H S : Nat → Nat → Int32} {t : Nat → Bool} {T : Nat → Int32} {tl : Nat} (h : RC d r V n H S t T tl) (iv : IV V n H S t T tl)  : ∃ d1, OP kX6_count yX6_count 6 [.ref 0, .int (nI 9)] d r J (some (.int (cnt V n 9))) d1 r J ∧ RC d1 r V n H S t T tl ∧ fm d d1 := by
  refine ⟨d, op_of pl_X6_count (Nat.le_of_ble_eq_true rfl) ?_, h, fm_refl d⟩
  refine sw_iload_n (i := 1) dX6_count_0 rfl rfl ?_
  refine sw_tabIn (off := 127) (tgt := 128) dX6_count_1 (by decide) (by decide) (by decide) (by decide) ?_
  refine sw_aload_n (i := 0) dX6_count_128 rfl rfl ?_
  refine sx_getR (q := 7) f_X6_19 (by decide) kr_0_1 dX6_count_129 ?_
  refine sx_getIE (nI n) (rcN h) f_X6_160 (by decide) kf_7_1 dX6_count_132 ?_
  exact sw_ireturn rfl dX6_count_135
set_option maxRecDepth 100000 in
set_option maxHeartbeats 4000000 in
theorem C_count {d : Nat → Nat → Int32} {r : Nat → Nat → Option Nat} {J : Nat → Nat → Int64} {V : Nat → Int32} {n : Nat} {H S : Nat → Nat → Int32} {t : Nat → Bool} {T : Nat → Int32} {tl : Nat} (h : RC d r V n H S t T tl) (iv : IV V n H S t T tl) {k : Nat} (hk : k < 10) : ∃ d1, OP kX6_count yX6_count 6 [.ref 0, .int (nI k)] d r J (some (.int (cnt V n k))) d1 r J ∧ RC d1 r V n H S t T tl ∧ fm d d1 := by
  match k, hk with
  | 0, _ => exact C0_count h iv
  | 1, _ => exact C1_count h iv
  | 2, _ => exact C2_count h iv
  | 3, _ => exact C3_count h iv
  | 4, _ => exact C4_count h iv
  | 5, _ => exact C5_count h iv
  | 6, _ => exact C6_count h iv
  | 7, _ => exact C7_count h iv
  | 8, _ => exact C8_count h iv
  | 9, _ => exact C9_count h iv
set_option maxRecDepth 100000 in
set_option maxHeartbeats 4000000 in
theorem C_promiseOf {d : Nat → Nat → Int32} {r : Nat → Nat → Option Nat} {J : Nat → Nat → Int64} {V : Nat → Int32} {n : Nat} {H S : Nat → Nat → Int32} {t : Nat → Bool} {T : Nat → Int32} {tl : Nat} (h : RC d r V n H S t T tl) (iv : IV V n H S t T tl) {q k : Nat} (hq : q < nv V 1) (hk : k ≤ 4) : ∃ d1, OP kX6_promiseOf yX6_promiseOf 7 [.ref 0, .int (nI q), .int (nI k)] d r J (some (.int (pro V q k))) d1 r J ∧ RC d1 r V n H S t T tl ∧ fm d d1 := by
  obtain ⟨okP, okM, okT9, okC, okW, okD⟩ := id iv.1
  obtain ⟨p1, p2, p3, p4, p5, p6, p7⟩ := okT9 q hq
  have hm8 := okM.2
  unfold pro
  by_cases c : k < 4
  · rw [if_pos c]
    have hx := A_X2_partOf (d := d) (r := r) (J := J) (b := 1) (a := q) (c := k) isB_1 (rcM h iv) (by rw [rcV h]; exact hq) c
    rw [rcV h] at hx
    refine ⟨d, op_of pl_X6_promiseOf (Nat.le_of_ble_eq_true rfl) ?_, h, fm_refl d⟩
    refine sw_aload_n (i := 0) dX6_promiseOf_0 rfl rfl ?_
    refine sw_iload_n (i := 1) dX6_promiseOf_1 rfl rfl ?_
    refine px_Vv mv_X6_118 (A_X6_needPromise (rcM h iv) (by rw [rcV h]; exact hq)) rfl rfl (Nat.le_of_ble_eq_true rfl) (Nat.le_of_ble_eq_true rfl) ko_0 (Nat.le_of_ble_eq_true rfl) dX6_promiseOf_2 ?_
    refine sw_iload_n (i := 2) dX6_promiseOf_5 rfl rfl ?_
    refine sw_ic 0 dX6_promiseOf_6 ?_
    refine sw_ic 4 dX6_promiseOf_7 ?_
    refine px_Sv ms_X6_86 (A_X6_needRange (lo := 0) (hi := 4) (Nat.zero_le _) hk (by decide)) rfl rfl (Nat.le_of_ble_eq_true rfl) (Nat.le_of_ble_eq_true rfl) (Nat.le_of_ble_eq_true rfl) dX6_promiseOf_8 ?_
    refine sw_ins (pc2 := 11) rfl rfl ?_
    refine sw_iload_n (i := 2) dX6_promiseOf_11 rfl rfl ?_
    refine sw_ic 4 dX6_promiseOf_12 ?_
    refine sw_ic_ge (tgt := 26) dX6_promiseOf_13 rfl (fun h9 => absurd h9 (nI_ge c (by decide))) (fun _ => ?_)
    refine sw_aload_n (i := 0) dX6_promiseOf_16 rfl rfl ?_
    refine sx_getR (q := 1) f_X6_10 (by decide) kr_0_0 dX6_promiseOf_17 ?_
    refine sw_iload_n (i := 1) dX6_promiseOf_20 rfl rfl ?_
    refine sw_iload_n (i := 2) dX6_promiseOf_21 rfl rfl ?_
    refine px_Vx mv_X6_183 hx rfl rfl (Nat.le_of_ble_eq_true rfl) (Nat.le_of_ble_eq_true rfl) ko_1 (Nat.le_of_ble_eq_true rfl) dX6_promiseOf_22 ?_
    refine sw_ins (pc2 := 25) rfl rfl ?_
    exact sw_ireturn rfl dX6_promiseOf_25
  · rw [if_neg c]
    have e4 : k = 4 := by omega
    subst e4
    have hp0 : OP kX2_partOf yX2_partOf 1 [.ref 1, .int (nI q), .int (nI 0)] d r J (some (.int (nI (prt V q 0)))) d r J := by
      have h9 := A_X2_partOf (d := d) (r := r) (J := J) (b := 1) (a := q) (c := 0) isB_1 (rcM h iv) (by rw [rcV h]; exact hq) (by decide)
      rw [rcV h, p1 0 (by decide)] at h9
      exact h9
    have hp2 : OP kX2_partOf yX2_partOf 1 [.ref 1, .int (nI q), .int (nI 2)] d r J (some (.int (nI (prt V q 2)))) d r J := by
      have h9 := A_X2_partOf (d := d) (r := r) (J := J) (b := 1) (a := q) (c := 2) isB_1 (rcM h iv) (by rw [rcV h]; exact hq) (by decide)
      rw [rcV h, p1 2 (by decide)] at h9
      exact h9
    have hl := A_X5_leastByColours (d := d) (r := r) (J := J) (b := 1) isB_1 (by rw [rcV h]; exact okC) (by rw [rcV h]; exact okW) p2 p6
    rw [rcV h, lbv_wy okC okW p2] at hl
    refine ⟨dup d 46 (lbF V (prt V q 0) (prt V q 2) (d 46)), op_of pl_X6_promiseOf (Nat.le_of_ble_eq_true rfl) ?_, RC_dup h (Or.inl rfl), fm_dup (by decide)⟩
    refine sw_aload_n (i := 0) dX6_promiseOf_0 rfl rfl ?_
    refine sw_iload_n (i := 1) dX6_promiseOf_1 rfl rfl ?_
    refine px_Vv mv_X6_118 (A_X6_needPromise (rcM h iv) (by rw [rcV h]; exact hq)) rfl rfl (Nat.le_of_ble_eq_true rfl) (Nat.le_of_ble_eq_true rfl) ko_0 (Nat.le_of_ble_eq_true rfl) dX6_promiseOf_2 ?_
    refine sw_iload_n (i := 2) dX6_promiseOf_5 rfl rfl ?_
    refine sw_ic 0 dX6_promiseOf_6 ?_
    refine sw_ic 4 dX6_promiseOf_7 ?_
    refine px_Sv ms_X6_86 (A_X6_needRange (a := 4) (lo := 0) (hi := 4) (Nat.zero_le _) (Nat.le_refl _) (by decide)) rfl rfl (Nat.le_of_ble_eq_true rfl) (Nat.le_of_ble_eq_true rfl) (Nat.le_of_ble_eq_true rfl) dX6_promiseOf_8 ?_
    refine sw_ins (pc2 := 11) rfl rfl ?_
    refine sw_iload_n (i := 2) dX6_promiseOf_11 rfl rfl ?_
    refine sw_ic 4 dX6_promiseOf_12 ?_
    refine sw_ic_ge (tgt := 26) dX6_promiseOf_13 rfl (fun _ => ?_) (fun h9 => absurd (by decide) h9)
    refine sw_aload_n (i := 0) dX6_promiseOf_26 rfl rfl ?_
    refine sx_getR (q := 45) f_X6_26 (by decide) kr_0_2 dX6_promiseOf_27 ?_
    refine sw_aload_n (i := 0) dX6_promiseOf_30 rfl rfl ?_
    refine sx_getR (q := 1) f_X6_10 (by decide) kr_0_0 dX6_promiseOf_31 ?_
    refine sw_aload_n (i := 0) dX6_promiseOf_34 rfl rfl ?_
    refine sw_ins (pc2 := 35) rfl rfl ?_
    refine sx_getR (q := 1) f_X6_10 (by decide) kr_0_0 dX6_promiseOf_35 ?_
    refine sw_iload_n (i := 1) dX6_promiseOf_38 rfl rfl ?_
    refine sw_ic 0 dX6_promiseOf_39 ?_
    refine px_Vx mv_X6_183 hp0 rfl rfl (Nat.le_of_ble_eq_true rfl) (Nat.le_of_ble_eq_true rfl) ko_1 (Nat.le_of_ble_eq_true rfl) dX6_promiseOf_40 ?_
    refine sw_aload_n (i := 0) dX6_promiseOf_43 rfl rfl ?_
    refine sx_getR (q := 1) f_X6_10 (by decide) kr_0_0 dX6_promiseOf_44 ?_
    refine sw_iload_n (i := 1) dX6_promiseOf_47 rfl rfl ?_
    refine sw_ic 2 dX6_promiseOf_48 ?_
    refine sw_ins (pc2 := 49) rfl rfl ?_
    refine px_Vx mv_X6_183 hp2 rfl rfl (Nat.le_of_ble_eq_true rfl) (Nat.le_of_ble_eq_true rfl) ko_1 (Nat.le_of_ble_eq_true rfl) dX6_promiseOf_49 ?_
    refine px_Vx mv_X6_186 hl rfl rfl (Nat.le_of_ble_eq_true rfl) (Nat.le_of_ble_eq_true rfl) ko_45 (Nat.le_of_ble_eq_true rfl) dX6_promiseOf_52 ?_
    exact sw_ireturn rfl dX6_promiseOf_55
set_option maxRecDepth 100000 in
set_option maxHeartbeats 4000000 in
theorem C_owed {d : Nat → Nat → Int32} {r : Nat → Nat → Option Nat} {J : Nat → Nat → Int64} {V : Nat → Int32} {n : Nat} {H S : Nat → Nat → Int32} {t : Nat → Bool} {T : Nat → Int32} {tl : Nat} (h : RC d r V n H S t T tl) (iv : IV V n H S t T tl) {a b : Nat} (ha : a < 8) (hb : b < 8) : ∃ d1, OP kX6_owed yX6_owed 7 [.ref 0, .int (nI a), .int (nI b)] d r J (some (.int (owd V a b))) d1 r J ∧ RC d1 r V n H S t T tl ∧ fm d d1 := by
  have okM := iv.1.2.1
  have hm8 := okM.2
  refine ⟨d, op_of pl_X6_owed (Nat.le_of_ble_eq_true rfl) ?_, h, fm_refl d⟩
  have L : ∀ i, i ≤ nv V 1 → SW yX6_owed cX6_owed 5 (some .int) [] 7 none 13 [some (.ref 0), some (.int (nI a)), some (.int (nI b)), some (.int (smt V (fun q => decide (V (51 + (q * 4 + 0)) = nI a) && decide (V (51 + (q * 4 + 1)) = nI b)) i)), some (.int (nI i))] [] 65 (W0 d r J) 0 0 (.inl (some (.int (owd V a b)))) 65 (W0 d r J) := by
    refine am_loop (nv V 1) ?_ ?_
    ·
      refine sw_iload (i := 4) dX6_owed_13 rfl ?_
      refine sw_aload_n (i := 0) dX6_owed_15 rfl rfl ?_
      refine sx_getR (q := 1) f_X6_10 (by decide) kr_0_0 dX6_owed_16 ?_
      refine sx_getIE (nI (nv V 1)) (((cV_many d 1).trans (congrFun (rcV h) 1)).trans okM.1) f_X6_190 (by decide) kf_1_5 dX6_owed_19 ?_
      refine sw_ic_ge (tgt := 72) dX6_owed_22 rfl (fun _ => ?_) (fun h9 => absurd (nI_le (Nat.le_refl _) (by omega)) h9)
      refine sw_iload_n (i := 3) dX6_owed_72 rfl rfl ?_
      exact sw_ireturn rfl dX6_owed_73
    · intro i hi ih
      have hs := smt_s V (fun q => decide (V (51 + (q * 4 + 0)) = nI a) && decide (V (51 + (q * 4 + 1)) = nI b)) i
      have g0 := A_X2_partOf (d := d) (r := r) (J := J) (b := 1) (a := i) (c := 0) isB_1 (rcM h iv) (by rw [rcV h]; exact hi) (by decide)
      have g1 := A_X2_partOf (d := d) (r := r) (J := J) (b := 1) (a := i) (c := 1) isB_1 (rcM h iv) (by rw [rcV h]; exact hi) (by decide)
      have g2 := A_X2_partOf (d := d) (r := r) (J := J) (b := 1) (a := i) (c := 2) isB_1 (rcM h iv) (by rw [rcV h]; exact hi) (by decide)
      rw [rcV h] at g0 g1 g2
      by_cases e0 : ¬ V (51 + (i * 4 + 0)) = nI a
      · rw [if_neg (by intro q; have q2 : (decide (V (51 + (i * 4 + 0)) = nI a) && decide (V (51 + (i * 4 + 1)) = nI b)) = true := q; rw [Bool.and_eq_true, decide_eq_true_eq, decide_eq_true_eq] at q2; exact e0 q2.1)] at hs
        rw [hs] at ih
        refine sw_iload (i := 4) dX6_owed_13 rfl ?_
        refine sw_aload_n (i := 0) dX6_owed_15 rfl rfl ?_
        refine sx_getR (q := 1) f_X6_10 (by decide) kr_0_0 dX6_owed_16 ?_
        refine sx_getIE (nI (nv V 1)) (((cV_many d 1).trans (congrFun (rcV h) 1)).trans okM.1) f_X6_190 (by decide) kf_1_5 dX6_owed_19 ?_
        refine sw_ic_ge (tgt := 72) dX6_owed_22 rfl (fun h9 => absurd h9 (nI_ge hi (by omega))) (fun _ => ?_)
        refine sw_aload_n (i := 0) dX6_owed_25 rfl rfl ?_
        refine sx_getR (q := 1) f_X6_10 (by decide) kr_0_0 dX6_owed_26 ?_
        refine sw_ins (pc2 := 29) rfl rfl ?_
        refine sw_iload (i := 4) dX6_owed_29 rfl ?_
        refine sw_ic 0 dX6_owed_31 ?_
        refine px_Vx mv_X6_183 g0 rfl rfl (Nat.le_of_ble_eq_true rfl) (Nat.le_of_ble_eq_true rfl) ko_1 (Nat.le_of_ble_eq_true rfl) dX6_owed_32 ?_
        refine sw_iload_n (i := 1) dX6_owed_35 rfl rfl ?_
        refine sw_ic_ne (tgt := 66) dX6_owed_36 rfl (fun _ => ?_) (fun h9 => absurd h9 e0)
        refine sw_iinc (i := 4) (v := nI (i + 1)) dX6_owed_66 rfl (nI_1 _) (Nat.le_of_ble_eq_true rfl) rfl ?_
        refine sw_lo (lo2 := [some (.ref 0), some (.int _), some (.int _), some (.int _), some (.int _)]) rfl ?_
        refine sw_goto (tgt := 13) dX6_owed_69 rfl ?_
        exact ih
      · have e0 : V (51 + (i * 4 + 0)) = nI a := Classical.not_not.mp e0
        by_cases e1 : ¬ V (51 + (i * 4 + 1)) = nI b
        · rw [if_neg (by intro q; have q2 : (decide (V (51 + (i * 4 + 0)) = nI a) && decide (V (51 + (i * 4 + 1)) = nI b)) = true := q; rw [Bool.and_eq_true, decide_eq_true_eq, decide_eq_true_eq] at q2; exact e1 q2.2)] at hs
          rw [hs] at ih
          refine sw_iload (i := 4) dX6_owed_13 rfl ?_
          refine sw_aload_n (i := 0) dX6_owed_15 rfl rfl ?_
          refine sx_getR (q := 1) f_X6_10 (by decide) kr_0_0 dX6_owed_16 ?_
          refine sx_getIE (nI (nv V 1)) (((cV_many d 1).trans (congrFun (rcV h) 1)).trans okM.1) f_X6_190 (by decide) kf_1_5 dX6_owed_19 ?_
          refine sw_ic_ge (tgt := 72) dX6_owed_22 rfl (fun h9 => absurd h9 (nI_ge hi (by omega))) (fun _ => ?_)
          refine sw_aload_n (i := 0) dX6_owed_25 rfl rfl ?_
          refine sx_getR (q := 1) f_X6_10 (by decide) kr_0_0 dX6_owed_26 ?_
          refine sw_ins (pc2 := 29) rfl rfl ?_
          refine sw_iload (i := 4) dX6_owed_29 rfl ?_
          refine sw_ic 0 dX6_owed_31 ?_
          refine px_Vx mv_X6_183 g0 rfl rfl (Nat.le_of_ble_eq_true rfl) (Nat.le_of_ble_eq_true rfl) ko_1 (Nat.le_of_ble_eq_true rfl) dX6_owed_32 ?_
          refine sw_iload_n (i := 1) dX6_owed_35 rfl rfl ?_
          refine sw_ic_ne (tgt := 66) dX6_owed_36 rfl (fun h9 => absurd e0 h9) (fun _ => ?_)
          refine sw_aload_n (i := 0) dX6_owed_39 rfl rfl ?_
          refine sx_getR (q := 1) f_X6_10 (by decide) kr_0_0 dX6_owed_40 ?_
          refine sw_iload (i := 4) dX6_owed_43 rfl ?_
          refine sw_ins (pc2 := 45) rfl rfl ?_
          refine sw_ic 1 dX6_owed_45 ?_
          refine px_Vx mv_X6_183 g1 rfl rfl (Nat.le_of_ble_eq_true rfl) (Nat.le_of_ble_eq_true rfl) ko_1 (Nat.le_of_ble_eq_true rfl) dX6_owed_46 ?_
          refine sw_iload_n (i := 2) dX6_owed_49 rfl rfl ?_
          refine sw_ic_ne (tgt := 66) dX6_owed_50 rfl (fun _ => ?_) (fun h9 => absurd h9 e1)
          refine sw_iinc (i := 4) (v := nI (i + 1)) dX6_owed_66 rfl (nI_1 _) (Nat.le_of_ble_eq_true rfl) rfl ?_
          refine sw_lo (lo2 := [some (.ref 0), some (.int _), some (.int _), some (.int _), some (.int _)]) rfl ?_
          refine sw_goto (tgt := 13) dX6_owed_69 rfl ?_
          exact ih
        · have e1 : V (51 + (i * 4 + 1)) = nI b := Classical.not_not.mp e1
          rw [if_pos (by show (decide (V (51 + (i * 4 + 0)) = nI a) && decide (V (51 + (i * 4 + 1)) = nI b)) = true; rw [Bool.and_eq_true, decide_eq_true_eq, decide_eq_true_eq]; exact ⟨e0, e1⟩)] at hs
          rw [hs] at ih
          refine sw_iload (i := 4) dX6_owed_13 rfl ?_
          refine sw_aload_n (i := 0) dX6_owed_15 rfl rfl ?_
          refine sx_getR (q := 1) f_X6_10 (by decide) kr_0_0 dX6_owed_16 ?_
          refine sx_getIE (nI (nv V 1)) (((cV_many d 1).trans (congrFun (rcV h) 1)).trans okM.1) f_X6_190 (by decide) kf_1_5 dX6_owed_19 ?_
          refine sw_ic_ge (tgt := 72) dX6_owed_22 rfl (fun h9 => absurd h9 (nI_ge hi (by omega))) (fun _ => ?_)
          refine sw_aload_n (i := 0) dX6_owed_25 rfl rfl ?_
          refine sx_getR (q := 1) f_X6_10 (by decide) kr_0_0 dX6_owed_26 ?_
          refine sw_ins (pc2 := 29) rfl rfl ?_
          refine sw_iload (i := 4) dX6_owed_29 rfl ?_
          refine sw_ic 0 dX6_owed_31 ?_
          refine px_Vx mv_X6_183 g0 rfl rfl (Nat.le_of_ble_eq_true rfl) (Nat.le_of_ble_eq_true rfl) ko_1 (Nat.le_of_ble_eq_true rfl) dX6_owed_32 ?_
          refine sw_iload_n (i := 1) dX6_owed_35 rfl rfl ?_
          refine sw_ic_ne (tgt := 66) dX6_owed_36 rfl (fun h9 => absurd e0 h9) (fun _ => ?_)
          refine sw_aload_n (i := 0) dX6_owed_39 rfl rfl ?_
          refine sx_getR (q := 1) f_X6_10 (by decide) kr_0_0 dX6_owed_40 ?_
          refine sw_iload (i := 4) dX6_owed_43 rfl ?_
          refine sw_ins (pc2 := 45) rfl rfl ?_
          refine sw_ic 1 dX6_owed_45 ?_
          refine px_Vx mv_X6_183 g1 rfl rfl (Nat.le_of_ble_eq_true rfl) (Nat.le_of_ble_eq_true rfl) ko_1 (Nat.le_of_ble_eq_true rfl) dX6_owed_46 ?_
          refine sw_iload_n (i := 2) dX6_owed_49 rfl rfl ?_
          refine sw_ic_ne (tgt := 66) dX6_owed_50 rfl (fun h9 => absurd e1 h9) (fun _ => ?_)
          refine sw_iload_n (i := 3) dX6_owed_53 rfl rfl ?_
          refine sw_aload_n (i := 0) dX6_owed_54 rfl rfl ?_
          refine sx_getR (q := 1) f_X6_10 (by decide) kr_0_0 dX6_owed_55 ?_
          refine sw_iload (i := 4) dX6_owed_58 rfl ?_
          refine sw_ins (pc2 := 60) rfl rfl ?_
          refine sw_ic 2 dX6_owed_60 ?_
          refine px_Vx mv_X6_183 g2 rfl rfl (Nat.le_of_ble_eq_true rfl) (Nat.le_of_ble_eq_true rfl) ko_1 (Nat.le_of_ble_eq_true rfl) dX6_owed_61 ?_
          refine sw_iadd dX6_owed_64 ?_
          refine sw_istore_n (i := 3) dX6_owed_65 rfl (Nat.le_of_ble_eq_true rfl) rfl ?_
          refine sw_lo (lo2 := [some (.ref 0), some (.int _), some (.int _), some (.int _), some (.int _)]) rfl ?_
          refine sw_iinc (i := 4) (v := nI (i + 1)) dX6_owed_66 rfl (nI_1 _) (Nat.le_of_ble_eq_true rfl) rfl ?_
          refine sw_lo (lo2 := [some (.ref 0), some (.int _), some (.int _), some (.int _), some (.int _)]) rfl ?_
          refine sw_goto (tgt := 13) dX6_owed_69 rfl ?_
          exact ih
  refine sw_iload_n (i := 1) dX6_owed_0 rfl rfl ?_
  refine px_Sv ms_X6_68 (A_X6_needIslander ha) rfl rfl (Nat.le_of_ble_eq_true rfl) (Nat.le_of_ble_eq_true rfl) (Nat.le_of_ble_eq_true rfl) dX6_owed_1 ?_
  refine sw_iload_n (i := 2) dX6_owed_4 rfl rfl ?_
  refine px_Sv ms_X6_68 (A_X6_needIslander hb) rfl rfl (Nat.le_of_ble_eq_true rfl) (Nat.le_of_ble_eq_true rfl) (Nat.le_of_ble_eq_true rfl) dX6_owed_5 ?_
  refine sw_ic 0 dX6_owed_8 ?_
  refine sw_istore_n (i := 3) dX6_owed_9 rfl (Nat.le_of_ble_eq_true rfl) rfl ?_
  refine sw_lo (lo2 := [some (.ref 0), some (.int _), some (.int _), some (.int _), none]) rfl ?_
  refine sw_ic 0 dX6_owed_10 ?_
  refine sw_ins (pc2 := 11) rfl rfl ?_
  refine sw_istore (i := 4) dX6_owed_11 (Nat.le_of_ble_eq_true rfl) rfl ?_
  refine sw_lo (lo2 := [some (.ref 0), some (.int _), some (.int _), some (.int _), some (.int _)]) rfl ?_
  exact L 0 (Nat.zero_le _)
set_option maxRecDepth 100000 in
set_option maxHeartbeats 4000000 in
theorem C0_where {d : Nat → Nat → Int32} {r : Nat → Nat → Option Nat} {J : Nat → Nat → Int64} {V : Nat → Int32} {n : Nat} {H S : Nat → Nat → Int32} {t : Nat → Bool} {T : Nat → Int32} {tl : Nat} (h : RC d r V n H S t T tl) (iv : IV V n H S t T tl) {a k : Nat} (ha : a < 8) (hk : k ≤ 1000) : ∃ d1, OP kX6_where yX6_where 7 [.ref 0, .int (nI a), .int (nI k), .int (nI 0)] d r J (some (.int (nI (alg V a k)))) d1 r J ∧ RC d1 r V n H S t T tl ∧ fm d d1 := by
  have hx := A_X2_along (d := d) (r := r) (J := J) (b := 1) (a := a) (n := k) isB_1 (rcP h iv) ha (by omega)
  rw [rcV h] at hx
  refine ⟨d, op_of pl_X6_where (Nat.le_of_ble_eq_true rfl) ?_, h, fm_refl d⟩
  refine sw_iload_n (i := 1) dX6_where_0 rfl rfl ?_
  refine px_Sv ms_X6_68 (A_X6_needIslander ha) rfl rfl (Nat.le_of_ble_eq_true rfl) (Nat.le_of_ble_eq_true rfl) (Nat.le_of_ble_eq_true rfl) dX6_where_1 ?_
  refine sw_iload_n (i := 2) dX6_where_4 rfl rfl ?_
  refine sw_ic 0 dX6_where_5 ?_
  refine sw_si 1000 dX6_where_6 (by decide +kernel) ?_
  refine px_Sv ms_X6_86 (A_X6_needRange (lo := 0) (hi := 1000) (Nat.zero_le _) hk (by decide)) rfl rfl (Nat.le_of_ble_eq_true rfl) (Nat.le_of_ble_eq_true rfl) (Nat.le_of_ble_eq_true rfl) dX6_where_9 ?_
  refine sw_iload_n (i := 3) dX6_where_12 rfl rfl ?_
  refine sw_ins (pc2 := 13) rfl rfl ?_
  refine sw_ic 0 dX6_where_13 ?_
  refine sw_ic 1 dX6_where_14 ?_
  refine px_Sv ms_X6_86 (A_X6_needRange (a := 0) (lo := 0) (hi := 1) (Nat.zero_le _) (by decide) (by decide)) rfl rfl (Nat.le_of_ble_eq_true rfl) (Nat.le_of_ble_eq_true rfl) (Nat.le_of_ble_eq_true rfl) dX6_where_15 ?_
  refine sw_iload_n (i := 3) dX6_where_18 rfl rfl ?_
  refine sw_if_ne (tgt := 32) dX6_where_19 rfl (fun h9 => absurd (by decide) h9) (fun _ => ?_)
  refine sw_aload_n (i := 0) dX6_where_22 rfl rfl ?_
  refine sx_getR (q := 1) f_X6_10 (by decide) kr_0_0 dX6_where_23 ?_
  refine sw_iload_n (i := 1) dX6_where_26 rfl rfl ?_
  refine sw_ins (pc2 := 27) rfl rfl ?_
  refine sw_iload_n (i := 2) dX6_where_27 rfl rfl ?_
  refine px_Vx mv_X6_207 hx rfl rfl (Nat.le_of_ble_eq_true rfl) (Nat.le_of_ble_eq_true rfl) ko_1 (Nat.le_of_ble_eq_true rfl) dX6_where_28 ?_
  exact sw_ireturn rfl dX6_where_31
set_option maxRecDepth 100000 in
set_option maxHeartbeats 4000000 in
theorem C1_where {d : Nat → Nat → Int32} {r : Nat → Nat → Option Nat} {J : Nat → Nat → Int64} {V : Nat → Int32} {n : Nat} {H S : Nat → Nat → Int32} {t : Nat → Bool} {T : Nat → Int32} {tl : Nat} (h : RC d r V n H S t T tl) (iv : IV V n H S t T tl) {a k : Nat} (ha : a < 8) (hk : k ≤ 1000) : ∃ d1, OP kX6_where yX6_where 7 [.ref 0, .int (nI a), .int (nI k), .int (nI 1)] d r J (some (.int (nI (alg V a k)))) d1 r J ∧ RC d1 r V n H S t T tl ∧ fm d d1 := by
  have okP := iv.1.1
  have hc := A_X2_circle (d := d) (r := r) (J := J) (b := 1) (a := a) isB_1 (rcP h iv) ha
  obtain ⟨c1, c2, c3, c4⟩ := crc_spec okP ha
  have hmd : k % crc V a < crc V a := Nat.mod_lt _ (by omega)
  have hx := A_X2_along (d := d) (r := r) (J := J) (b := 1) (a := a) (n := k % crc V a) isB_1 (rcP h iv) ha (by omega)
  rw [rcV h] at hx hc
  rw [alg_mod okP ha] at hx
  refine ⟨d, op_of pl_X6_where (Nat.le_of_ble_eq_true rfl) ?_, h, fm_refl d⟩
  refine sw_iload_n (i := 1) dX6_where_0 rfl rfl ?_
  refine px_Sv ms_X6_68 (A_X6_needIslander ha) rfl rfl (Nat.le_of_ble_eq_true rfl) (Nat.le_of_ble_eq_true rfl) (Nat.le_of_ble_eq_true rfl) dX6_where_1 ?_
  refine sw_iload_n (i := 2) dX6_where_4 rfl rfl ?_
  refine sw_ic 0 dX6_where_5 ?_
  refine sw_si 1000 dX6_where_6 (by decide +kernel) ?_
  refine px_Sv ms_X6_86 (A_X6_needRange (lo := 0) (hi := 1000) (Nat.zero_le _) hk (by decide)) rfl rfl (Nat.le_of_ble_eq_true rfl) (Nat.le_of_ble_eq_true rfl) (Nat.le_of_ble_eq_true rfl) dX6_where_9 ?_
  refine sw_iload_n (i := 3) dX6_where_12 rfl rfl ?_
  refine sw_ins (pc2 := 13) rfl rfl ?_
  refine sw_ic 0 dX6_where_13 ?_
  refine sw_ic 1 dX6_where_14 ?_
  refine px_Sv ms_X6_86 (A_X6_needRange (a := 1) (lo := 0) (hi := 1) (Nat.zero_le _) (by decide) (by decide)) rfl rfl (Nat.le_of_ble_eq_true rfl) (Nat.le_of_ble_eq_true rfl) (Nat.le_of_ble_eq_true rfl) dX6_where_15 ?_
  refine sw_iload_n (i := 3) dX6_where_18 rfl rfl ?_
  refine sw_if_ne (tgt := 32) dX6_where_19 rfl (fun _ => ?_) (fun h9 => absurd h9 (by decide))
  refine sw_aload_n (i := 0) dX6_where_32 rfl rfl ?_
  refine sx_getR (q := 1) f_X6_10 (by decide) kr_0_0 dX6_where_33 ?_
  refine sw_iload_n (i := 1) dX6_where_36 rfl rfl ?_
  refine sw_ins (pc2 := 37) rfl rfl ?_
  refine px_Vx mv_X6_175 hc rfl rfl (Nat.le_of_ble_eq_true rfl) (Nat.le_of_ble_eq_true rfl) ko_1 (Nat.le_of_ble_eq_true rfl) dX6_where_37 ?_
  refine sw_istore (i := 4) dX6_where_40 (Nat.le_of_ble_eq_true rfl) rfl ?_
  refine sw_lo (lo2 := [some (.ref 0), some (.int _), some (.int _), some (.int _), some (.int _)]) rfl ?_
  refine sw_aload_n (i := 0) dX6_where_42 rfl rfl ?_
  refine sx_getR (q := 1) f_X6_10 (by decide) kr_0_0 dX6_where_43 ?_
  refine sw_iload_n (i := 1) dX6_where_46 rfl rfl ?_
  refine sw_iload (i := 4) dX6_where_47 rfl ?_
  refine sw_if_le (tgt := 59) dX6_where_49 rfl (fun h9 => absurd h9 (nI_nle (by omega) (by omega))) (fun _ => ?_)
  refine sw_iload_n (i := 2) dX6_where_52 rfl rfl ?_
  refine sw_ins (pc2 := 53) rfl rfl ?_
  refine sw_iload (i := 4) dX6_where_53 rfl ?_
  refine sw_irem (nI_ne0 (by omega) (by omega)) dX6_where_55 ?_
  refine sw_topE (v := nI (k % crc V a)) (pk_rem (by omega) (by omega) (by omega)) ?_
  refine sw_goto (tgt := 60) dX6_where_56 rfl ?_
  refine px_Vx mv_X6_207 hx rfl rfl (Nat.le_of_ble_eq_true rfl) (Nat.le_of_ble_eq_true rfl) ko_1 (Nat.le_of_ble_eq_true rfl) dX6_where_60 ?_
  exact sw_ireturn rfl dX6_where_63
set_option maxRecDepth 100000 in
set_option maxHeartbeats 4000000 in
theorem C0_homeIn {d : Nat → Nat → Int32} {r : Nat → Nat → Option Nat} {J : Nat → Nat → Int64} {V : Nat → Int32} {n : Nat} {H S : Nat → Nat → Int32} {t : Nat → Bool} {T : Nat → Int32} {tl : Nat} (h : RC d r V n H S t T tl) (iv : IV V n H S t T tl)  : ∃ d1, OP kX6_homeIn yX6_homeIn 7 [.ref 0, .int (nI 0)] d r J (some (.int (nI (hm V)))) d1 r J ∧ RC d1 r V n H S t T tl ∧ fm d d1 := by
  have hx := A_X6_homeByCircles (d := d) (r := r) (J := J) (rcP h iv)
  rw [rcV h] at hx
  refine ⟨d, op_of pl_X6_homeIn (Nat.le_of_ble_eq_true rfl) ?_, h, fm_refl d⟩
  refine sw_iload_n (i := 1) dX6_homeIn_0 rfl rfl ?_
  refine sw_ic 0 dX6_homeIn_1 ?_
  refine sw_ic 1 dX6_homeIn_2 ?_
  refine px_Sv ms_X6_86 (A_X6_needRange (a := 0) (lo := 0) (hi := 1) (Nat.zero_le _) (by decide) (by decide)) rfl rfl (Nat.le_of_ble_eq_true rfl) (Nat.le_of_ble_eq_true rfl) (Nat.le_of_ble_eq_true rfl) dX6_homeIn_3 ?_
  refine sw_iload_n (i := 1) dX6_homeIn_6 rfl rfl ?_
  refine sw_if_ne (tgt := 17) dX6_homeIn_7 rfl (fun h9 => absurd (by decide) h9) (fun _ => ?_)
  refine sw_aload_n (i := 0) dX6_homeIn_10 rfl rfl ?_
  refine sw_ins (pc2 := 11) rfl rfl ?_
  refine px_Vx mv_X6_210 hx rfl rfl (Nat.le_of_ble_eq_true rfl) (Nat.le_of_ble_eq_true rfl) ko_0 (Nat.le_of_ble_eq_true rfl) dX6_homeIn_11 ?_
  refine sw_goto (tgt := 21) dX6_homeIn_14 rfl ?_
  exact sw_ireturn rfl dX6_homeIn_21
set_option maxRecDepth 100000 in
set_option maxHeartbeats 4000000 in
theorem C1_homeIn {d : Nat → Nat → Int32} {r : Nat → Nat → Option Nat} {J : Nat → Nat → Int64} {V : Nat → Int32} {n : Nat} {H S : Nat → Nat → Int32} {t : Nat → Bool} {T : Nat → Int32} {tl : Nat} (h : RC d r V n H S t T tl) (iv : IV V n H S t T tl)  : ∃ d1, OP kX6_homeIn yX6_homeIn 7 [.ref 0, .int (nI 1)] d r J (some (.int (nI (hm V)))) d1 r J ∧ RC d1 r V n H S t T tl ∧ fm d d1 := by
  have hx := A_X6_homeByTrying (d := d) (r := r) (J := J) (rcP h iv)
  rw [rcV h] at hx
  refine ⟨dup d 52 (hR V (d 52) (hm V)), op_of pl_X6_homeIn (Nat.le_of_ble_eq_true rfl) ?_, RC_dup h (Or.inr rfl), fm_dup (by decide)⟩
  refine sw_iload_n (i := 1) dX6_homeIn_0 rfl rfl ?_
  refine sw_ic 0 dX6_homeIn_1 ?_
  refine sw_ic 1 dX6_homeIn_2 ?_
  refine px_Sv ms_X6_86 (A_X6_needRange (a := 1) (lo := 0) (hi := 1) (Nat.zero_le _) (by decide) (by decide)) rfl rfl (Nat.le_of_ble_eq_true rfl) (Nat.le_of_ble_eq_true rfl) (Nat.le_of_ble_eq_true rfl) dX6_homeIn_3 ?_
  refine sw_iload_n (i := 1) dX6_homeIn_6 rfl rfl ?_
  refine sw_if_ne (tgt := 17) dX6_homeIn_7 rfl (fun _ => ?_) (fun h9 => absurd h9 (by decide))
  refine sw_aload_n (i := 0) dX6_homeIn_17 rfl rfl ?_
  refine sw_ins (pc2 := 18) rfl rfl ?_
  refine px_Vx mv_X6_213 hx rfl rfl (Nat.le_of_ble_eq_true rfl) (Nat.le_of_ble_eq_true rfl) ko_0 (Nat.le_of_ble_eq_true rfl) dX6_homeIn_18 ?_
  exact sw_ireturn rfl dX6_homeIn_21
set_option maxRecDepth 100000 in
set_option maxHeartbeats 4000000 in
theorem C0_fewest {d : Nat → Nat → Int32} {r : Nat → Nat → Option Nat} {J : Nat → Nat → Int64} {V : Nat → Int32} {n : Nat} {H S : Nat → Nat → Int32} {t : Nat → Bool} {T : Nat → Int32} {tl : Nat} (h : RC d r V n H S t T tl) (iv : IV V n H S t T tl) {a s : Nat} (ha : a < 8) (hs : 1 ≤ s) (hs9 : s ≤ 99) : ∃ d1, OP kX6_fewest yX6_fewest 7 [.ref 0, .int (nI a), .int (nI s), .int (nI 0)] d r J (some (.int (enc (wy V a s)))) d1 r J ∧ RC d1 r V n H S t T tl ∧ fm d d1 := by
  obtain ⟨okP, okM, okT9, okC, okW, okD⟩ := id iv.1
  have hl := A_X5_leastByColours (d := d) (r := r) (J := J) (b := 1) isB_1 (by rw [rcV h]; exact okC) (by rw [rcV h]; exact okW) ha hs9
  rw [rcV h, lbv_wy okC okW ha] at hl
  refine ⟨dup d 46 (lbF V a s (d 46)), op_of pl_X6_fewest (Nat.le_of_ble_eq_true rfl) ?_, RC_dup h (Or.inl rfl), fm_dup (by decide)⟩
  refine sw_iload_n (i := 1) dX6_fewest_0 rfl rfl ?_
  refine px_Sv ms_X6_68 (A_X6_needIslander ha) rfl rfl (Nat.le_of_ble_eq_true rfl) (Nat.le_of_ble_eq_true rfl) (Nat.le_of_ble_eq_true rfl) dX6_fewest_1 ?_
  refine sw_iload_n (i := 2) dX6_fewest_4 rfl rfl ?_
  refine sw_ic 1 dX6_fewest_5 ?_
  refine sw_bi 99 dX6_fewest_6 (by decide +kernel) ?_
  refine px_Sv ms_X6_86 (A_X6_needRange (lo := 1) (hi := 99) hs hs9 (by decide)) rfl rfl (Nat.le_of_ble_eq_true rfl) (Nat.le_of_ble_eq_true rfl) (Nat.le_of_ble_eq_true rfl) dX6_fewest_8 ?_
  refine sw_iload_n (i := 3) dX6_fewest_11 rfl rfl ?_
  refine sw_ins (pc2 := 12) rfl rfl ?_
  refine sw_ic 0 dX6_fewest_12 ?_
  refine sw_ic 1 dX6_fewest_13 ?_
  refine px_Sv ms_X6_86 (A_X6_needRange (a := 0) (lo := 0) (hi := 1) (Nat.zero_le _) (by decide) (by decide)) rfl rfl (Nat.le_of_ble_eq_true rfl) (Nat.le_of_ble_eq_true rfl) (Nat.le_of_ble_eq_true rfl) dX6_fewest_14 ?_
  refine sw_iload_n (i := 3) dX6_fewest_17 rfl rfl ?_
  refine sw_if_ne (tgt := 37) dX6_fewest_18 rfl (fun h9 => absurd (by decide) h9) (fun _ => ?_)
  refine sw_aload_n (i := 0) dX6_fewest_21 rfl rfl ?_
  refine sx_getR (q := 45) f_X6_26 (by decide) kr_0_2 dX6_fewest_22 ?_
  refine sw_aload_n (i := 0) dX6_fewest_25 rfl rfl ?_
  refine sw_ins (pc2 := 26) rfl rfl ?_
  refine sx_getR (q := 1) f_X6_10 (by decide) kr_0_0 dX6_fewest_26 ?_
  refine sw_iload_n (i := 1) dX6_fewest_29 rfl rfl ?_
  refine sw_iload_n (i := 2) dX6_fewest_30 rfl rfl ?_
  refine px_Vx mv_X6_186 hl rfl rfl (Nat.le_of_ble_eq_true rfl) (Nat.le_of_ble_eq_true rfl) ko_45 (Nat.le_of_ble_eq_true rfl) dX6_fewest_31 ?_
  refine sw_goto (tgt := 50) dX6_fewest_34 rfl ?_
  exact sw_ireturn rfl dX6_fewest_50
set_option maxRecDepth 100000 in
set_option maxHeartbeats 4000000 in
theorem C1_fewest {d : Nat → Nat → Int32} {r : Nat → Nat → Option Nat} {J : Nat → Nat → Int64} {V : Nat → Int32} {n : Nat} {H S : Nat → Nat → Int32} {t : Nat → Bool} {T : Nat → Int32} {tl : Nat} (h : RC d r V n H S t T tl) (iv : IV V n H S t T tl) {a s : Nat} (ha : a < 8) (hs : 1 ≤ s) (hs9 : s ≤ 99) : ∃ d1, OP kX6_fewest yX6_fewest 7 [.ref 0, .int (nI a), .int (nI s), .int (nI 1)] d r J (some (.int (enc (wy V a s)))) d1 r J ∧ RC d1 r V n H S t T tl ∧ fm d d1 := by
  obtain ⟨okP, okM, okT9, okC, okW, okD⟩ := id iv.1
  have okC2 : okCaps (cV d 1) := by rw [rcV h]; exact okC
  have okl := lbt_ok okC2 ha hs9 d
  have hl := A_X5_leastByTrying (d := d) (r := r) (J := J) (b := 1) isB_1 okC2 (by rw [rcV h]; exact okW) ha hs9
  rw [lbt_wy, rcV h] at hl
  rw [rcV h] at okl
  refine ⟨(lbt V a s d).2, op_of pl_X6_fewest (Nat.le_of_ble_eq_true rfl) ?_, RC_isl h (fun c q1 q2 q3 q4 => okl.1 c q3) ((cV_keep (fun c hc => okl.1 c (by omega))).trans (rcV h)), fun c hc => okl.1 c (by omega)⟩
  refine sw_iload_n (i := 1) dX6_fewest_0 rfl rfl ?_
  refine px_Sv ms_X6_68 (A_X6_needIslander ha) rfl rfl (Nat.le_of_ble_eq_true rfl) (Nat.le_of_ble_eq_true rfl) (Nat.le_of_ble_eq_true rfl) dX6_fewest_1 ?_
  refine sw_iload_n (i := 2) dX6_fewest_4 rfl rfl ?_
  refine sw_ic 1 dX6_fewest_5 ?_
  refine sw_bi 99 dX6_fewest_6 (by decide +kernel) ?_
  refine px_Sv ms_X6_86 (A_X6_needRange (lo := 1) (hi := 99) hs hs9 (by decide)) rfl rfl (Nat.le_of_ble_eq_true rfl) (Nat.le_of_ble_eq_true rfl) (Nat.le_of_ble_eq_true rfl) dX6_fewest_8 ?_
  refine sw_iload_n (i := 3) dX6_fewest_11 rfl rfl ?_
  refine sw_ins (pc2 := 12) rfl rfl ?_
  refine sw_ic 0 dX6_fewest_12 ?_
  refine sw_ic 1 dX6_fewest_13 ?_
  refine px_Sv ms_X6_86 (A_X6_needRange (a := 1) (lo := 0) (hi := 1) (Nat.zero_le _) (by decide) (by decide)) rfl rfl (Nat.le_of_ble_eq_true rfl) (Nat.le_of_ble_eq_true rfl) (Nat.le_of_ble_eq_true rfl) dX6_fewest_14 ?_
  refine sw_iload_n (i := 3) dX6_fewest_17 rfl rfl ?_
  refine sw_if_ne (tgt := 37) dX6_fewest_18 rfl (fun _ => ?_) (fun h9 => absurd h9 (by decide))
  refine sw_aload_n (i := 0) dX6_fewest_37 rfl rfl ?_
  refine sx_getR (q := 45) f_X6_26 (by decide) kr_0_2 dX6_fewest_38 ?_
  refine sw_aload_n (i := 0) dX6_fewest_41 rfl rfl ?_
  refine sw_ins (pc2 := 42) rfl rfl ?_
  refine sx_getR (q := 1) f_X6_10 (by decide) kr_0_0 dX6_fewest_42 ?_
  refine sw_iload_n (i := 1) dX6_fewest_45 rfl rfl ?_
  refine sw_iload_n (i := 2) dX6_fewest_46 rfl rfl ?_
  refine px_Vx mv_X6_216 hl rfl rfl (Nat.le_of_ble_eq_true rfl) (Nat.le_of_ble_eq_true rfl) ko_45 (Nat.le_of_ble_eq_true rfl) dX6_fewest_47 ?_
  exact sw_ireturn rfl dX6_fewest_50
