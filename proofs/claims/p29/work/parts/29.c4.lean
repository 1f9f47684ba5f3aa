/-! THE CLASS'S CALLS, 4: richest, richShare, bitsOfShare, canKeepIn (own work, written by wip/tools) -/
theorem f64_asm {s : Bool} {E t : Nat} (hE : E ≤ 2046) (ht : t < 2 ^ 52) : f64 (UInt64.ofNat (FP.Core.assemble FP.Core.b64 s E t)) := by
  have hs : s.toNat ≤ 1 := by cases s <;> decide
  have hn : (UInt64.ofNat (FP.Core.assemble FP.Core.b64 s E t)).toNat = (s.toNat * 2048 + E) * 2 ^ 52 + t := by
    rw [UInt64.toNat_ofNat', asm_eq]
    omega
  have e1 : FP.Core.fieldE FP.Core.b64 ((s.toNat * 2048 + E) * 2 ^ 52 + t) = E := by
    show ((s.toNat * 2048 + E) * 2 ^ 52 + t) / 2 ^ 52 % 2048 = E
    omega
  unfold f64 FP.Core.decode
  rw [hn, e1, if_neg (show ¬ E = FP.Core.b64.exps - 1 by show ¬ E = 2047; omega)]
  by_cases z : E = 0
  · rw [if_pos z]
    exact ⟨_, _, _, rfl⟩
  · rw [if_neg z]
    exact ⟨_, _, _, rfl⟩
theorem f64_fin {s : Bool} {c : Nat} {q : Int} (hc : c < 2 ^ 53) (hq : q ≤ 971) : f64 (UInt64.ofNat (FP.Core.encode FP.Core.b64 (.fin s c q))) := by
  have e : FP.Core.encode FP.Core.b64 (.fin s c q) = (if c < 2 ^ 52 then FP.Core.assemble FP.Core.b64 s 0 c else FP.Core.assemble FP.Core.b64 s ((q - -1074).toNat + 1) (c - 2 ^ 52)) := rfl
  rw [e]
  by_cases h : c < 2 ^ 52
  · rw [if_pos h]
    exact f64_asm (by decide) h
  · rw [if_neg h]
    exact f64_asm (by omega) (by omega)
theorem f64_rr {s : Bool} {num den : Nat} {e : Int} (hq : FP.Core.quantum FP.Core.b64 num den e ≤ 900) : f64 (UInt64.ofNat (FP.Core.encode FP.Core.b64 (FP.Core.roundRatio FP.Core.b64 s num den e))) := by
  unfold FP.Core.roundRatio
  by_cases h : num = 0
  · rw [if_pos h]
    exact f64_fin (by decide) (by decide)
  · rw [if_neg h]
    unfold FP.Core.roundAt FP.Core.settle FP.Core.bound
    have q1 : FP.Core.quantum FP.Core.b64 num den e ≤ FP.Core.b64.qmax := by
      show FP.Core.quantum FP.Core.b64 num den e ≤ (971 : Int)
      omega
    have q2 : FP.Core.quantum FP.Core.b64 num den e + 1 ≤ FP.Core.b64.qmax := by
      show FP.Core.quantum FP.Core.b64 num den e + 1 ≤ (971 : Int)
      omega
    rw [if_pos q1, if_pos q2]
    by_cases g : FP.Core.nearest (FP.Core.unitsNum num e (FP.Core.quantum FP.Core.b64 num den e)) (FP.Core.unitsDen den e (FP.Core.quantum FP.Core.b64 num den e)) < 2 ^ FP.Core.b64.p
    · rw [if_pos g]
      exact f64_fin g q1
    · rw [if_neg g]
      exact f64_fin (by decide) q2
/-- a number of 1 to 2, less 1, is finite -/
theorem f64_sub {x : UInt64} {t : Nat} (h : x.toNat = 1023 * 2 ^ 52 + t) (ht : t < 2 ^ 52) : f64 (FP.dsub x one64) := by
  have e : FP.dsub x one64 = UInt64.ofNat (FP.Core.encode FP.Core.b64 (FP.Core.round FP.Core.b64 (FP.Core.exactSum (FP.Core.decode FP.Core.b64 x.toNat) (FP.Core.negate (FP.Core.decode FP.Core.b64 one64.toNat))))) := rfl
  rw [e, dec_of h ht (by decide) (by decide), dec_one]
  have e2 : FP.Core.round FP.Core.b64 (FP.Core.exactSum (.fin false (2 ^ 52 + t) (-1074 + (((1023 : Nat) : Int) - 1))) (FP.Core.negate (.fin false (2 ^ 52) (-52)))) = FP.Core.roundRatio FP.Core.b64 (FP.Core.sumSign false true (FP.Core.sumUnits false (2 ^ 52 + t) (-52) true (2 ^ 52) (-52) (-52))) (FP.Core.sumUnits false (2 ^ 52 + t) (-52) true (2 ^ 52) (-52) (-52)).natAbs 1 (-52) := rfl
  rw [e2]
  have e3 : (FP.Core.sumUnits false (2 ^ 52 + t) (-52) true (2 ^ 52) (-52) (-52)).natAbs = t := by
    have : FP.Core.sumUnits false (2 ^ 52 + t) (-52) true (2 ^ 52) (-52) (-52) = (((2 ^ 52 + t) * 2 ^ 0 : Nat) : Int) + -((2 ^ 52 * 2 ^ 0 : Nat) : Int) := rfl
    rw [this]
    omega
  rw [e3]
  refine f64_rr ?_
  unfold FP.Core.quantum FP.Core.leading
  have hl : t.log2 ≤ 52 := by
    rcases Nat.eq_zero_or_pos t with z | z
    · rw [z]
      decide
    · have := (Nat.log2_lt (n := t) (k := 52) (by omega)).mpr ht
      omega
  have hk : ∀ k : Int, k ≤ 52 → ∀ p : Prop, [Decidable p] → (if p then k else k - 1) ≤ 52 := by
    intro k h1 p hp
    by_cases c : p
    · rw [if_pos c]; exact h1
    · rw [if_neg c]; omega
  have h9 := hk ((t.log2 : Int) - ((1 : Nat).log2 : Int)) (by have : (1 : Nat).log2 = 0 := rfl; omega) (1 * 2 ^ ((t.log2 : Int) - ((1 : Nat).log2 : Int)).toNat ≤ t * 2 ^ (-((t.log2 : Int) - ((1 : Nat).log2 : Int))).toNat)
  show max (-1074 : Int) ((if 1 * 2 ^ ((t.log2 : Int) - ((1 : Nat).log2 : Int)).toNat ≤ t * 2 ^ (-((t.log2 : Int) - ((1 : Nat).log2 : Int))).toNat then (t.log2 : Int) - ((1 : Nat).log2 : Int) else (t.log2 : Int) - ((1 : Nat).log2 : Int) - 1) + -52 - ((53 : Int) - 1)) ≤ 900
  omega
/-- the bits of a share, as both sides make them -/
def frc (v : UInt64) : Int64 := FP.d2l (FP.dmul (FP.dsub (dbl v (1023 - v.toNat / 2 ^ 52)) one64) big64)
def bts (v : UInt64) : Int64 := Int64.ofNat (v.toNat / 2 ^ 52 * 2 ^ 52) + frc v
theorem shl_at : ∀ e, e < 11 → (nI (1013 + e)).toInt64 <<< ((nI 52).toInt64 &&& 63) = Int64.ofNat ((1013 + e) * 2 ^ 52) := by decide +kernel
theorem shl_E {E : Nat} (h1 : 1013 ≤ E) (h2 : E ≤ 1023) : (nI E).toInt64 <<< ((nI 52).toInt64 &&& 63) = Int64.ofNat (E * 2 ^ 52) := by
  have h := shl_at (E - 1013) (by omega)
  rw [show 1013 + (E - 1013) = E by omega] at h
  exact h
set_option maxRecDepth 100000 in
set_option maxHeartbeats 4000000 in
theorem O_richest {d : Nat → Nat → Int32} {r : Nat → Nat → Option Nat} {J : Nat → Nat → Int64} {V : Nat → Int32} {n : Nat} {H S : Nat → Nat → Int32} {t : Nat → Bool} {T : Nat → Int32} {tl : Nat} (h : RC d r V n H S t T tl) (iv : IV V n H S t T tl) : OP kX6_richest yX6_richest 3 [.ref 0] d r J (some (.int (nI (rch V)))) d r J := by
  refine op_of pl_X6_richest (Nat.le_of_ble_eq_true rfl) ?_
  have L : ∀ i, i ≤ 7 → SW yX6_richest cX6_richest 3 (some .int) [] 3 none 4 [some (.ref 0), some (.int (nI (rcG V (i + 1)))), some (.int (nI (i + 1)))] [] 65 (W0 d r J) 0 0 (.inl (some (.int (nI (rch V))))) 65 (W0 d r J) := by
    refine am_loop 7 ?_ ?_
    ·
      refine sw_iload_n (i := 2) dX6_richest_4 rfl rfl ?_
      refine sw_bi 8 dX6_richest_5 (by decide +kernel) ?_
      refine sw_ic_ge (tgt := 37) dX6_richest_7 rfl (fun _ => ?_) (fun h9 => absurd (nI_le (by decide) (by decide)) h9)
      refine sw_iload_n (i := 1) dX6_richest_37 rfl rfl ?_
      exact sw_ireturn rfl dX6_richest_38
    · intro i hi ih
      have hl := rcG_lt V (i + 1) (by omega)
      have g0 := A_X2_purseWorth (d := d) (r := r) (J := J) (b := 1) (a := i + 1) isB_1 (by omega)
      have g1 := A_X2_purseWorth (d := d) (r := r) (J := J) (b := 1) (a := rcG V (i + 1)) isB_1 hl
      rw [rcV h] at g0 g1
      by_cases c : pw V (rcG V (i + 1)) < pw V (i + 1)
      · rw [show rcG V (i + 1 + 1) = i + 1 from if_pos c] at ih
        refine sw_iload_n (i := 2) dX6_richest_4 rfl rfl ?_
        refine sw_bi 8 dX6_richest_5 (by decide +kernel) ?_
        refine sw_ic_ge (tgt := 37) dX6_richest_7 rfl (fun h9 => absurd h9 (nI_ge (by omega) (by decide))) (fun _ => ?_)
        refine sw_aload_n (i := 0) dX6_richest_10 rfl rfl ?_
        refine sx_getR (q := 1) f_X6_10 (by decide) kr_0_0 dX6_richest_11 ?_
        refine sw_iload_n (i := 2) dX6_richest_14 rfl rfl ?_
        refine px_Vx mv_X6_172 g0 rfl rfl (Nat.le_of_ble_eq_true rfl) (Nat.le_of_ble_eq_true rfl) ko_1 (Nat.le_of_ble_eq_true rfl) dX6_richest_15 ?_
        refine sw_ins (pc2 := 18) rfl rfl ?_
        refine sw_aload_n (i := 0) dX6_richest_18 rfl rfl ?_
        refine sx_getR (q := 1) f_X6_10 (by decide) kr_0_0 dX6_richest_19 ?_
        refine sw_iload_n (i := 1) dX6_richest_22 rfl rfl ?_
        refine px_Vx mv_X6_172 g1 rfl rfl (Nat.le_of_ble_eq_true rfl) (Nat.le_of_ble_eq_true rfl) ko_1 (Nat.le_of_ble_eq_true rfl) dX6_richest_23 ?_
        refine sw_ic_le (tgt := 31) dX6_richest_26 rfl (fun h9 => absurd h9 (Int32.not_le.mpr c)) (fun _ => ?_)
        refine sw_iload_n (i := 2) dX6_richest_29 rfl rfl ?_
        refine sw_istore_n (i := 1) dX6_richest_30 rfl (Nat.le_of_ble_eq_true rfl) rfl ?_
        refine sw_lo (lo2 := [some (.ref 0), some (.int _), some (.int _)]) rfl ?_
        refine sw_iinc (i := 2) (v := nI (i + 1 + 1)) dX6_richest_31 rfl (nI_1 _) (Nat.le_of_ble_eq_true rfl) rfl ?_
        refine sw_lo (lo2 := [some (.ref 0), some (.int _), some (.int _)]) rfl ?_
        refine sw_ins (pc2 := 34) rfl rfl ?_
        refine sw_goto (tgt := 4) dX6_richest_34 rfl ?_
        exact ih
      · rw [show rcG V (i + 1 + 1) = rcG V (i + 1) from if_neg c] at ih
        refine sw_iload_n (i := 2) dX6_richest_4 rfl rfl ?_
        refine sw_bi 8 dX6_richest_5 (by decide +kernel) ?_
        refine sw_ic_ge (tgt := 37) dX6_richest_7 rfl (fun h9 => absurd h9 (nI_ge (by omega) (by decide))) (fun _ => ?_)
        refine sw_aload_n (i := 0) dX6_richest_10 rfl rfl ?_
        refine sx_getR (q := 1) f_X6_10 (by decide) kr_0_0 dX6_richest_11 ?_
        refine sw_iload_n (i := 2) dX6_richest_14 rfl rfl ?_
        refine px_Vx mv_X6_172 g0 rfl rfl (Nat.le_of_ble_eq_true rfl) (Nat.le_of_ble_eq_true rfl) ko_1 (Nat.le_of_ble_eq_true rfl) dX6_richest_15 ?_
        refine sw_ins (pc2 := 18) rfl rfl ?_
        refine sw_aload_n (i := 0) dX6_richest_18 rfl rfl ?_
        refine sx_getR (q := 1) f_X6_10 (by decide) kr_0_0 dX6_richest_19 ?_
        refine sw_iload_n (i := 1) dX6_richest_22 rfl rfl ?_
        refine px_Vx mv_X6_172 g1 rfl rfl (Nat.le_of_ble_eq_true rfl) (Nat.le_of_ble_eq_true rfl) ko_1 (Nat.le_of_ble_eq_true rfl) dX6_richest_23 ?_
        refine sw_ic_le (tgt := 31) dX6_richest_26 rfl (fun _ => ?_) (fun h9 => absurd (Int32.not_lt.mp c) h9)
        refine sw_iinc (i := 2) (v := nI (i + 1 + 1)) dX6_richest_31 rfl (nI_1 _) (Nat.le_of_ble_eq_true rfl) rfl ?_
        refine sw_lo (lo2 := [some (.ref 0), some (.int _), some (.int _)]) rfl ?_
        refine sw_goto (tgt := 4) dX6_richest_34 rfl ?_
        exact ih
  refine sw_ic 0 dX6_richest_0 ?_
  refine sw_istore_n (i := 1) dX6_richest_1 rfl (Nat.le_of_ble_eq_true rfl) rfl ?_
  refine sw_lo (lo2 := [some (.ref 0), some (.int _), none]) rfl ?_
  refine sw_ic 1 dX6_richest_2 ?_
  refine sw_istore_n (i := 2) dX6_richest_3 rfl (Nat.le_of_ble_eq_true rfl) rfl ?_
  refine sw_lo (lo2 := [some (.ref 0), some (.int _), some (.int _)]) rfl ?_
  have L0 := L 0 (Nat.zero_le _)
  rw [show 0 + 1 = 1 from rfl, rcG_1] at L0
  exact L0
set_option maxRecDepth 100000 in
set_option maxHeartbeats 4000000 in
theorem C_richest {d : Nat → Nat → Int32} {r : Nat → Nat → Option Nat} {J : Nat → Nat → Int64} {V : Nat → Int32} {n : Nat} {H S : Nat → Nat → Int32} {t : Nat → Bool} {T : Nat → Int32} {tl : Nat} (h : RC d r V n H S t T tl) (iv : IV V n H S t T tl)  : ∃ d1, OP kX6_richest yX6_richest 3 [.ref 0] d r J (some (.int (nI (rch V)))) d1 r J ∧ RC d1 r V n H S t T tl ∧ fm d d1 := by
  exact ⟨d, O_richest h iv, h, fm_refl d⟩
set_option maxRecDepth 100000 in
set_option maxHeartbeats 4000000 in
theorem O_richShare {d : Nat → Nat → Int32} {r : Nat → Nat → Option Nat} {J : Nat → Nat → Int64} {V : Nat → Int32} {n : Nat} {H S : Nat → Nat → Int32} {t : Nat → Bool} {T : Nat → Int32} {tl : Nat} (h : RC d r V n H S t T tl) (iv : IV V n H S t T tl) : OP kX6_richShare yX6_richShare 4 [.ref 0] d r J (some (.double (shr V))) d r J := by
  refine op_of pl_X6_richShare (Nat.le_of_ble_eq_true rfl) ?_
  obtain ⟨okP, okM, okT9, okC, okW, okD⟩ := id iv.1
  have hb := wsm_b okW
  have g0 := A_X2_allWorth (d := d) (r := r) (J := J) (b := 1) isB_1
  have g1 := A_X2_purseWorth (d := d) (r := r) (J := J) (b := 1) (a := rch V) isB_1 (rch_lt V)
  rw [rcV h, aw_nI okC okW] at g0
  rw [rcV h, pw_nI okC okW (rch_lt V)] at g1
  refine sw_aload_n (i := 0) dX6_richShare_0 rfl rfl ?_
  refine sx_getR (q := 1) f_X6_10 (by decide) kr_0_0 dX6_richShare_1 ?_
  refine px_Vx mv_X6_196 g0 rfl rfl (Nat.le_of_ble_eq_true rfl) (Nat.le_of_ble_eq_true rfl) ko_1 (Nat.le_of_ble_eq_true rfl) dX6_richShare_4 ?_
  refine sw_istore_n (i := 1) dX6_richShare_7 rfl (Nat.le_of_ble_eq_true rfl) rfl ?_
  refine sw_lo (lo2 := [some (.ref 0), some (.int _)]) rfl ?_
  refine sw_iload_n (i := 1) dX6_richShare_8 rfl rfl ?_
  refine sw_if_le (tgt := 30) dX6_richShare_9 rfl (fun h9 => absurd h9 (nI_nle (by omega) (by omega))) (fun _ => ?_)
  refine sw_aload_n (i := 0) dX6_richShare_12 rfl rfl ?_
  refine sw_ins (pc2 := 13) rfl rfl ?_
  refine sx_getR (q := 1) f_X6_10 (by decide) kr_0_0 dX6_richShare_13 ?_
  refine sw_aload_n (i := 0) dX6_richShare_16 rfl rfl ?_
  refine px_Vx mv_X6_227 (O_richest h iv) rfl rfl (Nat.le_of_ble_eq_true rfl) (Nat.le_of_ble_eq_true rfl) ko_0 (Nat.le_of_ble_eq_true rfl) dX6_richShare_17 ?_
  refine px_Vx mv_X6_172 g1 rfl rfl (Nat.le_of_ble_eq_true rfl) (Nat.le_of_ble_eq_true rfl) ko_1 (Nat.le_of_ble_eq_true rfl) dX6_richShare_20 ?_
  refine sw_i2d dX6_richShare_23 ?_
  refine sw_iload_n (i := 1) dX6_richShare_24 rfl rfl ?_
  refine sw_i2d dX6_richShare_25 ?_
  refine sw_ddiv (shr_n64 okC okW) dX6_richShare_26 ?_
  refine sw_ins (pc2 := 27) rfl rfl ?_
  refine sw_goto (tgt := 31) dX6_richShare_27 rfl ?_
  exact sw_dreturn rfl dX6_richShare_31
set_option maxRecDepth 100000 in
set_option maxHeartbeats 4000000 in
theorem C_richShare {d : Nat → Nat → Int32} {r : Nat → Nat → Option Nat} {J : Nat → Nat → Int64} {V : Nat → Int32} {n : Nat} {H S : Nat → Nat → Int32} {t : Nat → Bool} {T : Nat → Int32} {tl : Nat} (h : RC d r V n H S t T tl) (iv : IV V n H S t T tl)  : ∃ d1, OP kX6_richShare yX6_richShare 4 [.ref 0] d r J (some (.double (shr V))) d1 r J ∧ RC d1 r V n H S t T tl ∧ fm d d1 := by
  exact ⟨d, O_richShare h iv, h, fm_refl d⟩
set_option maxRecDepth 100000 in
set_option maxHeartbeats 4000000 in
theorem B_X6_canKeepIn {r : Nat → Nat → Option Nat} {J : Nat → Nat → Int64} {V : Nat → Int32} {n : Nat} {H S : Nat → Nat → Int32} {t : Nat → Bool} {T : Nat → Int32} {tl q s l : Nat} (ok : okV V) (hs : s ≤ 99) (hl : l ≤ 9999) : ∀ (f : Nat) (d : Nat → Nat → Int32) (a k : Nat), RC d r V n H S t T tl → a < 8 → f = l + 1 - (nv V 0 + k) → k ≤ 20000 → ∃ d1, SW yX6_canKeepIn cX6_canKeepIn 6 (some .int) [] 7 none 45 [some (.ref 0), some (.int (nI q)), some (.int (nI s)), some (.int (nI l)), some (.int (nI a)), some (.int (nI k))] [] 65 (W0 d r J) 0 0 (.inl (some (.int (ckG V s f a k)))) 65 (W0 d1 r J) ∧ RC d1 r V n H S t T tl ∧ fm d d1 := by
  obtain ⟨okP, okM, okT9, okC, okW, okD⟩ := id ok
  have hd := okD.1.2
  intro f
  induction f with
  | zero =>
    intro d a k h ha hf hk
    refine ⟨d, ?_, h, fm_refl d⟩
    refine sw_iload (i := 5) dX6_canKeepIn_45 rfl ?_
    refine sw_iload_n (i := 3) dX6_canKeepIn_47 rfl rfl ?_
    refine sw_aload_n (i := 0) dX6_canKeepIn_48 rfl rfl ?_
    refine sx_getR (q := 1) f_X6_10 (by decide) kr_0_0 dX6_canKeepIn_49 ?_
    refine sx_getIE (nI (nv V 0)) (((cV_day d 1).trans (congrFun (rcV h) 0)).trans okD.1.1) f_X6_155 (by decide) kf_1_6 dX6_canKeepIn_52 ?_
    refine sw_isub dX6_canKeepIn_55 ?_
    refine sw_ic_gt (tgt := 97) dX6_canKeepIn_56 rfl (fun _ => ?_) (fun h9 => absurd ((sub_lt (by omega) (by omega) (by omega)).mpr (by omega)) h9)
    refine sw_ins (pc2 := 97) rfl rfl ?_
    refine sw_im1 dX6_canKeepIn_97 ?_
    exact sw_ireturn rfl dX6_canKeepIn_98
  | succ f ih =>
    intro d a k h ha hf hk
    have g0 := A_X5_leastByColours (d := d) (r := r) (J := J) (b := 1) isB_1 (by rw [rcV h]; exact okC) (by rw [rcV h]; exact okW) ha hs
    rw [rcV h, lbv_wy okC okW ha] at g0
    have h2 := RC_dup (f := lbF V a s (d 46)) h (Or.inl rfl)
    cases hw : wy V a s with
    | none =>
      rw [hw] at g0
      rw [ckG_none hw]
      obtain ⟨sp1, sp2⟩ := snd_spec okP ha
      have g1 := A_X2_senderTo (d := dup d 46 (lbF V a s (d 46))) (r := r) (J := J) (b := 1) (i := a) isB_1 (by rw [rcV h2]; exact okP) ha
      rw [rcV h2] at g1
      obtain ⟨d1, y1, y2, y3⟩ := ih (dup d 46 (lbF V a s (d 46))) (snd V a) (k + 1) h2 sp2 (by omega) (by omega)
      refine ⟨d1, ?_, y2, fm_trans (fm_dup (by decide)) y3⟩
      refine sw_iload (i := 5) dX6_canKeepIn_45 rfl ?_
      refine sw_iload_n (i := 3) dX6_canKeepIn_47 rfl rfl ?_
      refine sw_aload_n (i := 0) dX6_canKeepIn_48 rfl rfl ?_
      refine sx_getR (q := 1) f_X6_10 (by decide) kr_0_0 dX6_canKeepIn_49 ?_
      refine sx_getIE (nI (nv V 0)) (((cV_day d 1).trans (congrFun (rcV h) 0)).trans okD.1.1) f_X6_155 (by decide) kf_1_6 dX6_canKeepIn_52 ?_
      refine sw_isub dX6_canKeepIn_55 ?_
      refine sw_ic_gt (tgt := 97) dX6_canKeepIn_56 rfl (fun h9 => absurd h9 (fun g => absurd ((sub_lt (by omega) (by omega) (by omega)).mp g) (by omega))) (fun _ => ?_)
      refine sw_ins (pc2 := 59) rfl rfl ?_
      refine sw_aload_n (i := 0) dX6_canKeepIn_59 rfl rfl ?_
      refine sx_getR (q := 45) f_X6_26 (by decide) kr_0_2 dX6_canKeepIn_60 ?_
      refine sw_aload_n (i := 0) dX6_canKeepIn_63 rfl rfl ?_
      refine sx_getR (q := 1) f_X6_10 (by decide) kr_0_0 dX6_canKeepIn_64 ?_
      refine sw_iload (i := 4) dX6_canKeepIn_67 rfl ?_
      refine sw_iload_n (i := 2) dX6_canKeepIn_69 rfl rfl ?_
      refine px_Vx mv_X6_186 g0 rfl rfl (Nat.le_of_ble_eq_true rfl) (Nat.le_of_ble_eq_true rfl) ko_45 (Nat.le_of_ble_eq_true rfl) dX6_canKeepIn_70 ?_
      refine sw_im1 dX6_canKeepIn_73 ?_
      refine sw_ins (pc2 := 74) rfl rfl ?_
      refine sw_ic_eq (tgt := 80) dX6_canKeepIn_74 rfl (fun _ => ?_) (fun h9 => absurd (by decide) h9)
      refine sw_aload_n (i := 0) dX6_canKeepIn_80 rfl rfl ?_
      refine sx_getR (q := 1) f_X6_10 (by decide) kr_0_0 dX6_canKeepIn_81 ?_
      refine sw_iload (i := 4) dX6_canKeepIn_84 rfl ?_
      refine px_Vx mv_X6_224 g1 rfl rfl (Nat.le_of_ble_eq_true rfl) (Nat.le_of_ble_eq_true rfl) ko_1 (Nat.le_of_ble_eq_true rfl) dX6_canKeepIn_86 ?_
      refine sw_istore (i := 4) dX6_canKeepIn_89 (Nat.le_of_ble_eq_true rfl) rfl ?_
      refine sw_lo (lo2 := [some (.ref 0), some (.int _), some (.int _), some (.int _), some (.int _), some (.int _)]) rfl ?_
      refine sw_iinc (i := 5) (v := nI (k + 1)) dX6_canKeepIn_91 rfl (nI_1 _) (Nat.le_of_ble_eq_true rfl) rfl ?_
      refine sw_lo (lo2 := [some (.ref 0), some (.int _), some (.int _), some (.int _), some (.int _), some (.int _)]) rfl ?_
      refine sw_goto (tgt := 45) dX6_canKeepIn_94 rfl ?_
      exact y1
    | some wq =>
      rw [hw] at g0
      rw [ckG_some hw]
      obtain ⟨z, f2, e, t2⟩ := wq
      have hsm := wy_small okC ha hw
      refine ⟨dup d 46 (lbF V a s (d 46)), ?_, h2, fm_dup (by decide)⟩
      refine sw_iload (i := 5) dX6_canKeepIn_45 rfl ?_
      refine sw_iload_n (i := 3) dX6_canKeepIn_47 rfl rfl ?_
      refine sw_aload_n (i := 0) dX6_canKeepIn_48 rfl rfl ?_
      refine sx_getR (q := 1) f_X6_10 (by decide) kr_0_0 dX6_canKeepIn_49 ?_
      refine sx_getIE (nI (nv V 0)) (((cV_day d 1).trans (congrFun (rcV h) 0)).trans okD.1.1) f_X6_155 (by decide) kf_1_6 dX6_canKeepIn_52 ?_
      refine sw_isub dX6_canKeepIn_55 ?_
      refine sw_ic_gt (tgt := 97) dX6_canKeepIn_56 rfl (fun h9 => absurd h9 (fun g => absurd ((sub_lt (by omega) (by omega) (by omega)).mp g) (by omega))) (fun _ => ?_)
      refine sw_ins (pc2 := 59) rfl rfl ?_
      refine sw_aload_n (i := 0) dX6_canKeepIn_59 rfl rfl ?_
      refine sx_getR (q := 45) f_X6_26 (by decide) kr_0_2 dX6_canKeepIn_60 ?_
      refine sw_aload_n (i := 0) dX6_canKeepIn_63 rfl rfl ?_
      refine sx_getR (q := 1) f_X6_10 (by decide) kr_0_0 dX6_canKeepIn_64 ?_
      refine sw_iload (i := 4) dX6_canKeepIn_67 rfl ?_
      refine sw_iload_n (i := 2) dX6_canKeepIn_69 rfl rfl ?_
      refine px_Vx mv_X6_186 g0 rfl rfl (Nat.le_of_ble_eq_true rfl) (Nat.le_of_ble_eq_true rfl) ko_45 (Nat.le_of_ble_eq_true rfl) dX6_canKeepIn_70 ?_
      refine sw_im1 dX6_canKeepIn_73 ?_
      refine sw_ins (pc2 := 74) rfl rfl ?_
      refine sw_ic_eq (tgt := 80) dX6_canKeepIn_74 rfl (fun h9 => absurd h9 (nI_ne_m1 (by omega))) (fun _ => ?_)
      refine sw_iload (i := 5) dX6_canKeepIn_77 rfl ?_
      exact sw_ireturn rfl dX6_canKeepIn_79
set_option maxRecDepth 100000 in
set_option maxHeartbeats 4000000 in
theorem C_canKeepIn {d : Nat → Nat → Int32} {r : Nat → Nat → Option Nat} {J : Nat → Nat → Int64} {V : Nat → Int32} {n : Nat} {H S : Nat → Nat → Int32} {t : Nat → Bool} {T : Nat → Int32} {tl : Nat} (h : RC d r V n H S t T tl) (iv : IV V n H S t T tl) {q : Nat} (hq : q < nv V 1) : ∃ d1, OP kX6_canKeepIn yX6_canKeepIn 7 [.ref 0, .int (nI q)] d r J (some (.int (ckp V q))) d1 r J ∧ RC d1 r V n H S t T tl ∧ fm d d1 := by
  obtain ⟨okP, okM, okT9, okC, okW, okD⟩ := id iv.1
  obtain ⟨p1, p2, p3, p4, p5, p6, p7⟩ := okT9 q hq
  have hm8 := okM.2
  have hp0 : OP kX2_partOf yX2_partOf 1 [.ref 1, .int (nI q), .int (nI 0)] d r J (some (.int (nI (prt V q 0)))) d r J := by
    have h9 := A_X2_partOf (d := d) (r := r) (J := J) (b := 1) (a := q) (c := 0) isB_1 (rcM h iv) (by rw [rcV h]; exact hq) (by decide)
    rw [rcV h, p1 0 (by decide)] at h9
    exact h9
  have hp2 : OP kX2_partOf yX2_partOf 1 [.ref 1, .int (nI q), .int (nI 2)] d r J (some (.int (nI (prt V q 2)))) d r J := by
    have h9 := A_X2_partOf (d := d) (r := r) (J := J) (b := 1) (a := q) (c := 2) isB_1 (rcM h iv) (by rw [rcV h]; exact hq) (by decide)
    rw [rcV h, p1 2 (by decide)] at h9
    exact h9
  have hp3 : OP kX2_partOf yX2_partOf 1 [.ref 1, .int (nI q), .int (nI 3)] d r J (some (.int (nI (prt V q 3)))) d r J := by
    have h9 := A_X2_partOf (d := d) (r := r) (J := J) (b := 1) (a := q) (c := 3) isB_1 (rcM h iv) (by rw [rcV h]; exact hq) (by decide)
    rw [rcV h, p1 3 (by decide)] at h9
    exact h9
  obtain ⟨d1, y1, y2, y3⟩ := B_X6_canKeepIn (r := r) (J := J) (q := q) iv.1 p6 (Nat.min_le_right (prt V q 3) 9999) (min (prt V q 3) 9999 + 1 - nv V 0) d (prt V q 0) 0 h p2 rfl (Nat.zero_le _)
  unfold ckp
  refine ⟨d1, op_of pl_X6_canKeepIn (Nat.le_of_ble_eq_true rfl) ?_, y2, y3⟩
  refine sw_aload_n (i := 0) dX6_canKeepIn_0 rfl rfl ?_
  refine sw_iload_n (i := 1) dX6_canKeepIn_1 rfl rfl ?_
  refine px_Vv mv_X6_118 (A_X6_needPromise (rcM h iv) (by rw [rcV h]; exact hq)) rfl rfl (Nat.le_of_ble_eq_true rfl) (Nat.le_of_ble_eq_true rfl) ko_0 (Nat.le_of_ble_eq_true rfl) dX6_canKeepIn_2 ?_
  refine sw_aload_n (i := 0) dX6_canKeepIn_5 rfl rfl ?_
  refine sx_getR (q := 1) f_X6_10 (by decide) kr_0_0 dX6_canKeepIn_6 ?_
  refine sw_iload_n (i := 1) dX6_canKeepIn_9 rfl rfl ?_
  refine sw_ic 2 dX6_canKeepIn_10 ?_
  refine sw_ins (pc2 := 11) rfl rfl ?_
  refine px_Vx mv_X6_183 hp2 rfl rfl (Nat.le_of_ble_eq_true rfl) (Nat.le_of_ble_eq_true rfl) ko_1 (Nat.le_of_ble_eq_true rfl) dX6_canKeepIn_11 ?_
  refine sw_istore_n (i := 2) dX6_canKeepIn_14 rfl (Nat.le_of_ble_eq_true rfl) rfl ?_
  refine sw_lo (lo2 := [some (.ref 0), some (.int _), some (.int _), none, none, none]) rfl ?_
  refine sw_aload_n (i := 0) dX6_canKeepIn_15 rfl rfl ?_
  refine sx_getR (q := 1) f_X6_10 (by decide) kr_0_0 dX6_canKeepIn_16 ?_
  refine sw_iload_n (i := 1) dX6_canKeepIn_19 rfl rfl ?_
  refine sw_ic 3 dX6_canKeepIn_20 ?_
  refine px_Vx mv_X6_183 hp3 rfl rfl (Nat.le_of_ble_eq_true rfl) (Nat.le_of_ble_eq_true rfl) ko_1 (Nat.le_of_ble_eq_true rfl) dX6_canKeepIn_21 ?_
  refine sw_si 9999 dX6_canKeepIn_24 (by decide +kernel) ?_
  refine sw_ins (pc2 := 27) rfl rfl ?_
  refine sw_min mm_X6_219 (Nat.le_of_ble_eq_true rfl) (Nat.le_of_ble_eq_true rfl) dX6_canKeepIn_27 ?_
  refine sw_topE (v := nI (min (prt V q 3) 9999)) (by by_cases c : 9999 < prt V q 3; (rw [if_pos (nI_lt c (by omega)), Nat.min_eq_right (by omega)]); (rw [if_neg (nI_nlt (by omega) (by omega)), Nat.min_eq_left (by omega)])) ?_
  refine sw_istore_n (i := 3) dX6_canKeepIn_30 rfl (Nat.le_of_ble_eq_true rfl) rfl ?_
  refine sw_lo (lo2 := [some (.ref 0), some (.int _), some (.int _), some (.int _), none, none]) rfl ?_
  refine sw_aload_n (i := 0) dX6_canKeepIn_31 rfl rfl ?_
  refine sx_getR (q := 1) f_X6_10 (by decide) kr_0_0 dX6_canKeepIn_32 ?_
  refine sw_iload_n (i := 1) dX6_canKeepIn_35 rfl rfl ?_
  refine sw_ic 0 dX6_canKeepIn_36 ?_
  refine px_Vx mv_X6_183 hp0 rfl rfl (Nat.le_of_ble_eq_true rfl) (Nat.le_of_ble_eq_true rfl) ko_1 (Nat.le_of_ble_eq_true rfl) dX6_canKeepIn_37 ?_
  refine sw_istore (i := 4) dX6_canKeepIn_40 (Nat.le_of_ble_eq_true rfl) rfl ?_
  refine sw_lo (lo2 := [some (.ref 0), some (.int _), some (.int _), some (.int _), some (.int _), none]) rfl ?_
  refine sw_ins (pc2 := 42) rfl rfl ?_
  refine sw_ic 0 dX6_canKeepIn_42 ?_
  refine sw_istore (i := 5) dX6_canKeepIn_43 (Nat.le_of_ble_eq_true rfl) rfl ?_
  refine sw_lo (lo2 := [some (.ref 0), some (.int _), some (.int _), some (.int _), some (.int _), some (.int _)]) rfl ?_
  exact y1
