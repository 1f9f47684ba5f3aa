/-! THE CLASS'S CALLS, 5: the digest (own work, written by wip/tools) -/
def fo (g : Nat → Int32) (h : Int64) : Nat → Int64
  | 0 => h
  | i + 1 => 31 * fo g h i + (g i).toInt64
def foF (g : Nat → Int64 → Int64) (h : Int64) : Nat → Int64
  | 0 => h
  | i + 1 => g i (foF g h i)
noncomputable def wi1 (V : Nat → Int32) (a : Nat) (h : Int64) : Int64 := fo (isl V a) (fo (fun c => V (19 + (a * 4 + c))) h 4) 5
noncomputable def wi2 (V : Nat → Int32) (a : Nat) (h : Int64) : Int64 := 31 * (31 * wi1 V a h + (nI (alg V a 7)).toInt64) + (nI (alg V a 7)).toInt64
noncomputable def wi3 (V : Nat → Int32) (a : Nat) (h : Int64) : Int64 := 31 * (31 * wi2 V a h + (enc (wy V a 17)).toInt64) + (enc (wy V a 17)).toInt64
noncomputable def wiF (V : Nat → Int32) (a : Nat) (h : Int64) : Int64 := fo (owd V a) (wi3 V a h) 8
noncomputable def wpF (V : Nat → Int32) (q : Nat) (h : Int64) : Int64 := 31 * fo (pro V q) h 5 + (ckp V q).toInt64
def dg1 (V : Nat → Int32) (n : Nat) : Int64 := fo (fun c => V (7 + c)) (fo (cnt V n) 3643 10) 4
noncomputable def dg2 (V : Nat → Int32) (n : Nat) : Int64 := foF (wiF V) (dg1 V n) 8
noncomputable def dg3 (V : Nat → Int32) (n : Nat) : Int64 := foF (wpF V) (dg2 V n) (nv V 1)
noncomputable def dg4 (V : Nat → Int32) (n : Nat) : Int64 := 31 * (31 * dg3 V n + (nI (hm V)).toInt64) + (nI (hm V)).toInt64
noncomputable def dg5 (V : Nat → Int32) (n : Nat) : Int64 := 31 * (31 * dg4 V n + (nI (rch V)).toInt64) + bts (shr V)
noncomputable def dg6 (V : Nat → Int32) (n : Nat) (t : Nat → Bool) : Int64 := fo (fun i => bI (t i)) (dg5 V n) 2
noncomputable def dig (V : Nat → Int32) (n : Nat) (t : Nat → Bool) (T : Nat → Int32) (tl : Nat) : Int64 := fo (fun a => nI (sg T tl a)) (31 * dg6 V n t + (nI tl).toInt64) tl
set_option maxRecDepth 100000 in
set_option maxHeartbeats 4000000 in
theorem C_withIslander {d : Nat → Nat → Int32} {r : Nat → Nat → Option Nat} {J : Nat → Nat → Int64} {V : Nat → Int32} {n : Nat} {H S : Nat → Nat → Int32} {t : Nat → Bool} {T : Nat → Int32} {tl : Nat} (h : RC d r V n H S t T tl) (iv : IV V n H S t T tl) {a : Nat} {hh : Int64} (ha : a < 8) : ∃ d1, OP kX6_withIslander yX6_withIslander 8 [.ref 0, .long hh, .int (nI a)] d r J (some (.long (wiF V a hh))) d1 r J ∧ RC d1 r V n H S t T tl ∧ fm d d1 := by
  have K4 : ∀ i, i ≤ 8 → ∀ d, RC d r V n H S t T tl → ∃ d1, SW yX6_withIslander cX6_withIslander 7 (some .long) [] 8 none 130 [some (.ref 0), some (.long hh), none, some (.int (nI a)), some (.long (fo (owd V a) (wi3 V a hh) i)), none, some (.int (nI i))] [] 75 (W0 d r J) 0 0 (.inl (some (.long (wiF V a hh)))) 75 (W0 d1 r J) ∧ RC d1 r V n H S t T tl ∧ fm d d1 := by
    refine am_loop (8) ?_ ?_
    · intro d h
      refine ⟨d, ?_, h, fm_refl d⟩
      refine sw_iload (i := 6) dX6_withIslander_130 rfl ?_
      refine sw_bi 8 dX6_withIslander_132 (by decide +kernel) ?_
      refine sw_ic_ge (tgt := 158) dX6_withIslander_134 rfl (fun _ => ?_) (fun h9 => absurd (nI_le (Nat.le_refl _) (by decide)) h9)
      refine sw_lload (i := 4) dX6_withIslander_158 rfl ?_
      exact sw_lreturn rfl dX6_withIslander_160
    · intro i hi ih d h
      obtain ⟨e1, x1, x2, x3⟩ := C_owed (J := J) (a := a) (b := i) h iv ha hi
      obtain ⟨d1, y1, y2, y3⟩ := ih e1 x2
      refine ⟨d1, ?_, y2, fm_trans x3 y3⟩
      refine sw_iload (i := 6) dX6_withIslander_130 rfl ?_
      refine sw_bi 8 dX6_withIslander_132 (by decide +kernel) ?_
      refine sw_ic_ge (tgt := 158) dX6_withIslander_134 rfl (fun h9 => absurd h9 (nI_ge hi (by decide))) (fun _ => ?_)
      refine sw_lload (i := 4) dX6_withIslander_137 rfl ?_
      refine sw_aload_n (i := 0) dX6_withIslander_139 rfl rfl ?_
      refine sw_iload_n (i := 3) dX6_withIslander_140 rfl rfl ?_
      refine sw_iload (i := 6) dX6_withIslander_141 rfl ?_
      refine sw_ins (pc2 := 143) rfl rfl ?_
      refine px_Vx mv_X6_276 x1 rfl rfl (Nat.le_of_ble_eq_true rfl) (Nat.le_of_ble_eq_true rfl) ko_0 (Nat.le_of_ble_eq_true rfl) dX6_withIslander_143 ?_
      refine sw_i2l dX6_withIslander_146 ?_
      refine px_Sx ms_X6_235 A_X6_mixed rfl rfl (Nat.le_of_ble_eq_true rfl) (Nat.le_of_ble_eq_true rfl) (Nat.le_of_ble_eq_true rfl) dX6_withIslander_147 ?_
      refine sw_lstore (i := 4) dX6_withIslander_150 (Nat.le_of_ble_eq_true rfl) rfl ?_
      refine sw_lo (lo2 := [some (.ref 0), some (.long _), none, some (.int _), some (.long _), none, some (.int _)]) rfl ?_
      refine sw_iinc (i := 6) (v := nI (i + 1)) dX6_withIslander_152 rfl (nI_1 _) (Nat.le_of_ble_eq_true rfl) rfl ?_
      refine sw_lo (lo2 := [some (.ref 0), some (.long _), none, some (.int _), some (.long _), none, some (.int _)]) rfl ?_
      refine sw_goto (tgt := 130) dX6_withIslander_155 rfl ?_
      exact y1
  have K3 : ∀ d, RC d r V n H S t T tl → ∃ d1, SW yX6_withIslander cX6_withIslander 7 (some .long) [] 8 none 63 [some (.ref 0), some (.long hh), none, some (.int (nI a)), some (.long (wi1 V a hh)), none, some (.int (nI 5))] [] 75 (W0 d r J) 0 0 (.inl (some (.long (wiF V a hh)))) 75 (W0 d1 r J) ∧ RC d1 r V n H S t T tl ∧ fm d d1 := by
    intro d h
    obtain ⟨e1, x1, x2, x3⟩ := C0_where (J := J) (a := a) (k := 7) h iv ha (by decide)
    obtain ⟨e2, u1, u2, u3⟩ := C1_where (J := J) (a := a) (k := 7) x2 iv ha (by decide)
    obtain ⟨e3, v1, v2, v3⟩ := C0_fewest (J := J) (a := a) (s := 17) u2 iv ha (by decide) (by decide)
    obtain ⟨e4, w1, w2, w3⟩ := C1_fewest (J := J) (a := a) (s := 17) v2 iv ha (by decide) (by decide)
    obtain ⟨d1, y1, y2, y3⟩ := K4 0 (Nat.zero_le _) e4 w2
    refine ⟨d1, ?_, y2, fm_trans x3 (fm_trans u3 (fm_trans v3 (fm_trans w3 y3)))⟩
    refine sw_lload (i := 4) dX6_withIslander_63 rfl ?_
    refine sw_aload_n (i := 0) dX6_withIslander_65 rfl rfl ?_
    refine sw_iload_n (i := 3) dX6_withIslander_66 rfl rfl ?_
    refine sw_bi 7 dX6_withIslander_67 (by decide +kernel) ?_
    refine sw_ic 0 dX6_withIslander_69 ?_
    refine px_Vx mv_X6_269 x1 rfl rfl (Nat.le_of_ble_eq_true rfl) (Nat.le_of_ble_eq_true rfl) ko_0 (Nat.le_of_ble_eq_true rfl) dX6_withIslander_70 ?_
    refine sw_i2l dX6_withIslander_73 ?_
    refine sw_ins (pc2 := 74) rfl rfl ?_
    refine px_Sx ms_X6_235 A_X6_mixed rfl rfl (Nat.le_of_ble_eq_true rfl) (Nat.le_of_ble_eq_true rfl) (Nat.le_of_ble_eq_true rfl) dX6_withIslander_74 ?_
    refine sw_lstore (i := 4) dX6_withIslander_77 (Nat.le_of_ble_eq_true rfl) rfl ?_
    refine sw_lo (lo2 := [some (.ref 0), some (.long _), none, some (.int _), some (.long _), none, some (.int _)]) rfl ?_
    refine sw_lload (i := 4) dX6_withIslander_79 rfl ?_
    refine sw_aload_n (i := 0) dX6_withIslander_81 rfl rfl ?_
    refine sw_iload_n (i := 3) dX6_withIslander_82 rfl rfl ?_
    refine sw_bi 7 dX6_withIslander_83 (by decide +kernel) ?_
    refine sw_ic 1 dX6_withIslander_85 ?_
    refine px_Vx mv_X6_269 u1 rfl rfl (Nat.le_of_ble_eq_true rfl) (Nat.le_of_ble_eq_true rfl) ko_0 (Nat.le_of_ble_eq_true rfl) dX6_withIslander_86 ?_
    refine sw_ins (pc2 := 89) rfl rfl ?_
    refine sw_i2l dX6_withIslander_89 ?_
    refine px_Sx ms_X6_235 A_X6_mixed rfl rfl (Nat.le_of_ble_eq_true rfl) (Nat.le_of_ble_eq_true rfl) (Nat.le_of_ble_eq_true rfl) dX6_withIslander_90 ?_
    refine sw_lstore (i := 4) dX6_withIslander_93 (Nat.le_of_ble_eq_true rfl) rfl ?_
    refine sw_lo (lo2 := [some (.ref 0), some (.long _), none, some (.int _), some (.long _), none, some (.int _)]) rfl ?_
    refine sw_lload (i := 4) dX6_withIslander_95 rfl ?_
    refine sw_aload_n (i := 0) dX6_withIslander_97 rfl rfl ?_
    refine sw_iload_n (i := 3) dX6_withIslander_98 rfl rfl ?_
    refine sw_bi 17 dX6_withIslander_99 (by decide +kernel) ?_
    refine sw_ic 0 dX6_withIslander_101 ?_
    refine sw_ins (pc2 := 102) rfl rfl ?_
    refine px_Vx mv_X6_273 v1 rfl rfl (Nat.le_of_ble_eq_true rfl) (Nat.le_of_ble_eq_true rfl) ko_0 (Nat.le_of_ble_eq_true rfl) dX6_withIslander_102 ?_
    refine sw_i2l dX6_withIslander_105 ?_
    refine px_Sx ms_X6_235 A_X6_mixed rfl rfl (Nat.le_of_ble_eq_true rfl) (Nat.le_of_ble_eq_true rfl) (Nat.le_of_ble_eq_true rfl) dX6_withIslander_106 ?_
    refine sw_lstore (i := 4) dX6_withIslander_109 (Nat.le_of_ble_eq_true rfl) rfl ?_
    refine sw_lo (lo2 := [some (.ref 0), some (.long _), none, some (.int _), some (.long _), none, some (.int _)]) rfl ?_
    refine sw_lload (i := 4) dX6_withIslander_111 rfl ?_
    refine sw_aload_n (i := 0) dX6_withIslander_113 rfl rfl ?_
    refine sw_iload_n (i := 3) dX6_withIslander_114 rfl rfl ?_
    refine sw_bi 17 dX6_withIslander_115 (by decide +kernel) ?_
    refine sw_ins (pc2 := 117) rfl rfl ?_
    refine sw_ic 1 dX6_withIslander_117 ?_
    refine px_Vx mv_X6_273 w1 rfl rfl (Nat.le_of_ble_eq_true rfl) (Nat.le_of_ble_eq_true rfl) ko_0 (Nat.le_of_ble_eq_true rfl) dX6_withIslander_118 ?_
    refine sw_i2l dX6_withIslander_121 ?_
    refine px_Sx ms_X6_235 A_X6_mixed rfl rfl (Nat.le_of_ble_eq_true rfl) (Nat.le_of_ble_eq_true rfl) (Nat.le_of_ble_eq_true rfl) dX6_withIslander_122 ?_
    refine sw_lstore (i := 4) dX6_withIslander_125 (Nat.le_of_ble_eq_true rfl) rfl ?_
    refine sw_lo (lo2 := [some (.ref 0), some (.long _), none, some (.int _), some (.long _), none, some (.int _)]) rfl ?_
    refine sw_ic 0 dX6_withIslander_127 ?_
    refine sw_istore (i := 6) dX6_withIslander_128 (Nat.le_of_ble_eq_true rfl) rfl ?_
    refine sw_lo (lo2 := [some (.ref 0), some (.long _), none, some (.int _), some (.long _), none, some (.int _)]) rfl ?_
    exact y1
  have K2 : ∀ i, i ≤ 5 → ∀ d, RC d r V n H S t T tl → ∃ d1, SW yX6_withIslander cX6_withIslander 7 (some .long) [] 8 none 36 [some (.ref 0), some (.long hh), none, some (.int (nI a)), some (.long (fo (isl V a) (fo (fun c => V (19 + (a * 4 + c))) hh 4) i)), none, some (.int (nI i))] [] 75 (W0 d r J) 0 0 (.inl (some (.long (wiF V a hh)))) 75 (W0 d1 r J) ∧ RC d1 r V n H S t T tl ∧ fm d d1 := by
    refine am_loop (5) ?_ ?_
    · intro d h
      obtain ⟨d1, y1, y2, y3⟩ := K3 d h
      refine ⟨d1, ?_, y2, y3⟩
      refine sw_iload (i := 6) dX6_withIslander_36 rfl ?_
      refine sw_ic 4 dX6_withIslander_38 ?_
      refine sw_ic_gt (tgt := 63) dX6_withIslander_39 rfl (fun _ => ?_) (fun h9 => absurd (nI_lt (by decide) (by decide)) h9)
      exact y1
    · intro i hi ih d h
      obtain ⟨e1, x1, x2, x3⟩ := C_islanderOf (J := J) (a := a) (k := i) h iv ha hi
      obtain ⟨d1, y1, y2, y3⟩ := ih e1 x2
      refine ⟨d1, ?_, y2, fm_trans x3 y3⟩
      refine sw_iload (i := 6) dX6_withIslander_36 rfl ?_
      refine sw_ic 4 dX6_withIslander_38 ?_
      refine sw_ic_gt (tgt := 63) dX6_withIslander_39 rfl (fun h9 => absurd h9 (nI_nlt (by omega) (by decide))) (fun _ => ?_)
      refine sw_lload (i := 4) dX6_withIslander_42 rfl ?_
      refine sw_aload_n (i := 0) dX6_withIslander_44 rfl rfl ?_
      refine sw_iload_n (i := 3) dX6_withIslander_45 rfl rfl ?_
      refine sw_iload (i := 6) dX6_withIslander_46 rfl ?_
      refine sw_ins (pc2 := 48) rfl rfl ?_
      refine px_Vx mv_X6_266 x1 rfl rfl (Nat.le_of_ble_eq_true rfl) (Nat.le_of_ble_eq_true rfl) ko_0 (Nat.le_of_ble_eq_true rfl) dX6_withIslander_48 ?_
      refine sw_i2l dX6_withIslander_51 ?_
      refine px_Sx ms_X6_235 A_X6_mixed rfl rfl (Nat.le_of_ble_eq_true rfl) (Nat.le_of_ble_eq_true rfl) (Nat.le_of_ble_eq_true rfl) dX6_withIslander_52 ?_
      refine sw_lstore (i := 4) dX6_withIslander_55 (Nat.le_of_ble_eq_true rfl) rfl ?_
      refine sw_lo (lo2 := [some (.ref 0), some (.long _), none, some (.int _), some (.long _), none, some (.int _)]) rfl ?_
      refine sw_iinc (i := 6) (v := nI (i + 1)) dX6_withIslander_57 rfl (nI_1 _) (Nat.le_of_ble_eq_true rfl) rfl ?_
      refine sw_lo (lo2 := [some (.ref 0), some (.long _), none, some (.int _), some (.long _), none, some (.int _)]) rfl ?_
      refine sw_goto (tgt := 36) dX6_withIslander_60 rfl ?_
      exact y1
  have K1 : ∀ i, i ≤ 4 → ∀ d, RC d r V n H S t T tl → ∃ d1, SW yX6_withIslander cX6_withIslander 7 (some .long) [] 8 none 6 [some (.ref 0), some (.long hh), none, some (.int (nI a)), some (.long (fo (fun c => V (19 + (a * 4 + c))) hh i)), none, some (.int (nI i))] [] 75 (W0 d r J) 0 0 (.inl (some (.long (wiF V a hh)))) 75 (W0 d1 r J) ∧ RC d1 r V n H S t T tl ∧ fm d d1 := by
    refine am_loop (4) ?_ ?_
    · intro d h
      obtain ⟨d1, y1, y2, y3⟩ := K2 0 (Nat.zero_le _) d h
      refine ⟨d1, ?_, y2, y3⟩
      refine sw_iload (i := 6) dX6_withIslander_6 rfl ?_
      refine sw_ic 4 dX6_withIslander_8 ?_
      refine sw_ic_ge (tgt := 33) dX6_withIslander_9 rfl (fun _ => ?_) (fun h9 => absurd (nI_le (Nat.le_refl _) (by decide)) h9)
      refine sw_ic 0 dX6_withIslander_33 ?_
      refine sw_istore (i := 6) dX6_withIslander_34 (Nat.le_of_ble_eq_true rfl) rfl ?_
      refine sw_lo (lo2 := [some (.ref 0), some (.long _), none, some (.int _), some (.long _), none, some (.int _)]) rfl ?_
      exact y1
    · intro i hi ih d h
      obtain ⟨e1, x1, x2, x3⟩ := C_caps (J := J) (a := a) (c := i) h iv ha hi
      obtain ⟨d1, y1, y2, y3⟩ := ih e1 x2
      refine ⟨d1, ?_, y2, fm_trans x3 y3⟩
      refine sw_iload (i := 6) dX6_withIslander_6 rfl ?_
      refine sw_ic 4 dX6_withIslander_8 ?_
      refine sw_ic_ge (tgt := 33) dX6_withIslander_9 rfl (fun h9 => absurd h9 (nI_ge hi (by decide))) (fun _ => ?_)
      refine sw_lload (i := 4) dX6_withIslander_12 rfl ?_
      refine sw_aload_n (i := 0) dX6_withIslander_14 rfl rfl ?_
      refine sw_iload_n (i := 3) dX6_withIslander_15 rfl rfl ?_
      refine sw_iload (i := 6) dX6_withIslander_16 rfl ?_
      refine sw_ins (pc2 := 18) rfl rfl ?_
      refine px_Vx mv_X6_263 x1 rfl rfl (Nat.le_of_ble_eq_true rfl) (Nat.le_of_ble_eq_true rfl) ko_0 (Nat.le_of_ble_eq_true rfl) dX6_withIslander_18 ?_
      refine sw_i2l dX6_withIslander_21 ?_
      refine px_Sx ms_X6_235 A_X6_mixed rfl rfl (Nat.le_of_ble_eq_true rfl) (Nat.le_of_ble_eq_true rfl) (Nat.le_of_ble_eq_true rfl) dX6_withIslander_22 ?_
      refine sw_lstore (i := 4) dX6_withIslander_25 (Nat.le_of_ble_eq_true rfl) rfl ?_
      refine sw_lo (lo2 := [some (.ref 0), some (.long _), none, some (.int _), some (.long _), none, some (.int _)]) rfl ?_
      refine sw_iinc (i := 6) (v := nI (i + 1)) dX6_withIslander_27 rfl (nI_1 _) (Nat.le_of_ble_eq_true rfl) rfl ?_
      refine sw_lo (lo2 := [some (.ref 0), some (.long _), none, some (.int _), some (.long _), none, some (.int _)]) rfl ?_
      refine sw_goto (tgt := 6) dX6_withIslander_30 rfl ?_
      exact y1
  obtain ⟨d1, y1, y2, y3⟩ := K1 0 (Nat.zero_le _) d h
  refine ⟨d1, op_of pl_X6_withIslander (Nat.le_of_ble_eq_true rfl) ?_, y2, y3⟩
  refine sw_lload_n (i := 1) dX6_withIslander_0 rfl rfl ?_
  refine sw_lstore (i := 4) dX6_withIslander_1 (Nat.le_of_ble_eq_true rfl) rfl ?_
  refine sw_lo (lo2 := [some (.ref 0), some (.long _), none, some (.int _), some (.long _), none, none]) rfl ?_
  refine sw_ic 0 dX6_withIslander_3 ?_
  refine sw_istore (i := 6) dX6_withIslander_4 (Nat.le_of_ble_eq_true rfl) rfl ?_
  refine sw_lo (lo2 := [some (.ref 0), some (.long _), none, some (.int _), some (.long _), none, some (.int _)]) rfl ?_
  exact y1
set_option maxRecDepth 100000 in
set_option maxHeartbeats 4000000 in
theorem C_withPromise {d : Nat → Nat → Int32} {r : Nat → Nat → Option Nat} {J : Nat → Nat → Int64} {V : Nat → Int32} {n : Nat} {H S : Nat → Nat → Int32} {t : Nat → Bool} {T : Nat → Int32} {tl : Nat} (h : RC d r V n H S t T tl) (iv : IV V n H S t T tl) {q : Nat} {hh : Int64} (hq : q < nv V 1) : ∃ d1, OP kX6_withPromise yX6_withPromise 8 [.ref 0, .long hh, .int (nI q)] d r J (some (.long (wpF V q hh))) d1 r J ∧ RC d1 r V n H S t T tl ∧ fm d d1 := by
  have K1 : ∀ i, i ≤ 5 → ∀ d, RC d r V n H S t T tl → ∃ d1, SW yX6_withPromise cX6_withPromise 7 (some .long) [] 8 none 6 [some (.ref 0), some (.long hh), none, some (.int (nI q)), some (.long (fo (pro V q) hh i)), none, some (.int (nI i))] [] 75 (W0 d r J) 0 0 (.inl (some (.long (wpF V q hh)))) 75 (W0 d1 r J) ∧ RC d1 r V n H S t T tl ∧ fm d d1 := by
    refine am_loop (5) ?_ ?_
    · intro d h
      obtain ⟨d1, y1, y2, y3⟩ := C_canKeepIn (J := J) h iv hq
      refine ⟨d1, ?_, y2, y3⟩
      refine sw_iload (i := 6) dX6_withPromise_6 rfl ?_
      refine sw_ic 4 dX6_withPromise_8 ?_
      refine sw_ic_gt (tgt := 33) dX6_withPromise_9 rfl (fun _ => ?_) (fun h9 => absurd (nI_lt (by decide) (by decide)) h9)
      refine sw_lload (i := 4) dX6_withPromise_33 rfl ?_
      refine sw_aload_n (i := 0) dX6_withPromise_35 rfl rfl ?_
      refine sw_iload_n (i := 3) dX6_withPromise_36 rfl rfl ?_
      refine px_Vx mv_X6_282 y1 rfl rfl (Nat.le_of_ble_eq_true rfl) (Nat.le_of_ble_eq_true rfl) ko_0 (Nat.le_of_ble_eq_true rfl) dX6_withPromise_37 ?_
      refine sw_ins (pc2 := 40) rfl rfl ?_
      refine sw_i2l dX6_withPromise_40 ?_
      refine px_Sx ms_X6_235 A_X6_mixed rfl rfl (Nat.le_of_ble_eq_true rfl) (Nat.le_of_ble_eq_true rfl) (Nat.le_of_ble_eq_true rfl) dX6_withPromise_41 ?_
      exact sw_lreturn rfl dX6_withPromise_44
    · intro i hi ih d h
      obtain ⟨e1, x1, x2, x3⟩ := C_promiseOf (J := J) (q := q) (k := i) h iv hq (by omega)
      obtain ⟨d1, y1, y2, y3⟩ := ih e1 x2
      refine ⟨d1, ?_, y2, fm_trans x3 y3⟩
      refine sw_iload (i := 6) dX6_withPromise_6 rfl ?_
      refine sw_ic 4 dX6_withPromise_8 ?_
      refine sw_ic_gt (tgt := 33) dX6_withPromise_9 rfl (fun h9 => absurd h9 (nI_nlt (by omega) (by decide))) (fun _ => ?_)
      refine sw_lload (i := 4) dX6_withPromise_12 rfl ?_
      refine sw_aload_n (i := 0) dX6_withPromise_14 rfl rfl ?_
      refine sw_iload_n (i := 3) dX6_withPromise_15 rfl rfl ?_
      refine sw_iload (i := 6) dX6_withPromise_16 rfl ?_
      refine sw_ins (pc2 := 18) rfl rfl ?_
      refine px_Vx mv_X6_279 x1 rfl rfl (Nat.le_of_ble_eq_true rfl) (Nat.le_of_ble_eq_true rfl) ko_0 (Nat.le_of_ble_eq_true rfl) dX6_withPromise_18 ?_
      refine sw_i2l dX6_withPromise_21 ?_
      refine px_Sx ms_X6_235 A_X6_mixed rfl rfl (Nat.le_of_ble_eq_true rfl) (Nat.le_of_ble_eq_true rfl) (Nat.le_of_ble_eq_true rfl) dX6_withPromise_22 ?_
      refine sw_lstore (i := 4) dX6_withPromise_25 (Nat.le_of_ble_eq_true rfl) rfl ?_
      refine sw_lo (lo2 := [some (.ref 0), some (.long _), none, some (.int _), some (.long _), none, some (.int _)]) rfl ?_
      refine sw_iinc (i := 6) (v := nI (i + 1)) dX6_withPromise_27 rfl (nI_1 _) (Nat.le_of_ble_eq_true rfl) rfl ?_
      refine sw_lo (lo2 := [some (.ref 0), some (.long _), none, some (.int _), some (.long _), none, some (.int _)]) rfl ?_
      refine sw_goto (tgt := 6) dX6_withPromise_30 rfl ?_
      exact y1
  obtain ⟨d1, y1, y2, y3⟩ := K1 0 (Nat.zero_le _) d h
  refine ⟨d1, op_of pl_X6_withPromise (Nat.le_of_ble_eq_true rfl) ?_, y2, y3⟩
  refine sw_lload_n (i := 1) dX6_withPromise_0 rfl rfl ?_
  refine sw_lstore (i := 4) dX6_withPromise_1 (Nat.le_of_ble_eq_true rfl) rfl ?_
  refine sw_lo (lo2 := [some (.ref 0), some (.long _), none, some (.int _), some (.long _), none, none]) rfl ?_
  refine sw_ic 0 dX6_withPromise_3 ?_
  refine sw_istore (i := 6) dX6_withPromise_4 (Nat.le_of_ble_eq_true rfl) rfl ?_
  refine sw_lo (lo2 := [some (.ref 0), some (.long _), none, some (.int _), some (.long _), none, some (.int _)]) rfl ?_
  exact y1
set_option maxRecDepth 100000 in
set_option maxHeartbeats 4000000 in
theorem C_digest {d : Nat → Nat → Int32} {r : Nat → Nat → Option Nat} {J : Nat → Nat → Int64} {V : Nat → Int32} {n : Nat} {H S : Nat → Nat → Int32} {t : Nat → Bool} {T : Nat → Int32} {tl : Nat} (h : RC d r V n H S t T tl) (iv : IV V n H S t T tl)  : ∃ d1, OP kX6_digest yX6_digest 9 [.ref 0] d r J (some (.long (dig V n t T tl))) d1 r J ∧ RC d1 r V n H S t T tl ∧ fm d d1 := by
  have okM := iv.1.2.1
  have hm8 := okM.2
  have h60 := iv.2.2.2.1
  obtain ⟨E, tt, b1, b2, b3, b4⟩ := shr_bits iv.1.2.2.2.1 iv.1.2.2.2.2.1
  have K9 : ∀ i, i ≤ tl → ∀ d, RC d r V n H S t T tl → ∃ d1, SW yX6_digest cX6_digest 4 (some .long) [] 9 none 194 [some (.ref 0), some (.long (fo (fun a => nI (sg T tl a)) (31 * dg6 V n t + (nI tl).toInt64) i)), none, some (.int (nI i))] [] 75 (W0 d r J) 0 0 (.inl (some (.long (dig V n t T tl)))) 75 (W0 d1 r J) ∧ RC d1 r V n H S t T tl ∧ fm d d1 := by
    refine am_loop (tl) ?_ ?_
    · intro d h
      refine ⟨d, ?_, h, fm_refl d⟩
      refine sw_iload_n (i := 3) dX6_digest_194 rfl rfl ?_
      refine sw_aload_n (i := 0) dX6_digest_195 rfl rfl ?_
      refine sx_getR (q := 48) f_X6_33 (by decide) kr_0_3 dX6_digest_196 ?_
      refine sx_getIE (nI tl) (rcL h) f_X6_124 (by decide) kf_48_1 dX6_digest_199 ?_
      refine sw_ic_ge (tgt := 225) dX6_digest_202 rfl (fun _ => ?_) (fun h9 => absurd (nI_le (Nat.le_refl _) (by omega)) h9)
      refine sw_lload_n (i := 1) dX6_digest_225 rfl rfl ?_
      exact sw_lreturn rfl dX6_digest_226
    · intro i hi ih d h
      have x1 := A_X4_signAt (d := d) (r := r) (J := J) (L := tl) (a := i) (rcL h) (rcX h iv) (by omega)
      rw [rcT h] at x1
      obtain ⟨d1, y1, y2, y3⟩ := ih d h
      refine ⟨d1, ?_, y2, y3⟩
      refine sw_iload_n (i := 3) dX6_digest_194 rfl rfl ?_
      refine sw_aload_n (i := 0) dX6_digest_195 rfl rfl ?_
      refine sx_getR (q := 48) f_X6_33 (by decide) kr_0_3 dX6_digest_196 ?_
      refine sx_getIE (nI tl) (rcL h) f_X6_124 (by decide) kf_48_1 dX6_digest_199 ?_
      refine sw_ic_ge (tgt := 225) dX6_digest_202 rfl (fun h9 => absurd h9 (nI_ge hi (by omega))) (fun _ => ?_)
      refine sw_lload_n (i := 1) dX6_digest_205 rfl rfl ?_
      refine sw_aload_n (i := 0) dX6_digest_206 rfl rfl ?_
      refine sw_ins (pc2 := 207) rfl rfl ?_
      refine sx_getR (q := 48) f_X6_33 (by decide) kr_0_3 dX6_digest_207 ?_
      refine sw_iload_n (i := 3) dX6_digest_210 rfl rfl ?_
      refine px_Vx mv_X6_257 x1 rfl rfl (Nat.le_of_ble_eq_true rfl) (Nat.le_of_ble_eq_true rfl) ko_48 (Nat.le_of_ble_eq_true rfl) dX6_digest_211 ?_
      refine sw_i2l dX6_digest_214 ?_
      refine px_Sx ms_X6_235 A_X6_mixed rfl rfl (Nat.le_of_ble_eq_true rfl) (Nat.le_of_ble_eq_true rfl) (Nat.le_of_ble_eq_true rfl) dX6_digest_215 ?_
      refine sw_lstore_n (i := 1) dX6_digest_218 rfl (Nat.le_of_ble_eq_true rfl) rfl ?_
      refine sw_lo (lo2 := [some (.ref 0), some (.long _), none, some (.int _)]) rfl ?_
      refine sw_iinc (i := 3) (v := nI (i + 1)) dX6_digest_219 rfl (nI_1 _) (Nat.le_of_ble_eq_true rfl) rfl ?_
      refine sw_lo (lo2 := [some (.ref 0), some (.long _), none, some (.int _)]) rfl ?_
      refine sw_goto (tgt := 194) dX6_digest_222 rfl ?_
      exact y1
  have K8 : ∀ d, RC d r V n H S t T tl → ∃ d1, SW yX6_digest cX6_digest 4 (some .long) [] 9 none 179 [some (.ref 0), some (.long (dg6 V n t)), none, some (.int (nI 2))] [] 75 (W0 d r J) 0 0 (.inl (some (.long (dig V n t T tl)))) 75 (W0 d1 r J) ∧ RC d1 r V n H S t T tl ∧ fm d d1 := by
    intro d h
    obtain ⟨d1, y1, y2, y3⟩ := K9 0 (Nat.zero_le _) d h
    refine ⟨d1, ?_, y2, y3⟩
    refine sw_lload_n (i := 1) dX6_digest_179 rfl rfl ?_
    refine sw_aload_n (i := 0) dX6_digest_180 rfl rfl ?_
    refine sx_getR (q := 48) f_X6_33 (by decide) kr_0_3 dX6_digest_181 ?_
    refine sx_getIE (nI tl) (rcL h) f_X6_124 (by decide) kf_48_1 dX6_digest_184 ?_
    refine sw_i2l dX6_digest_187 ?_
    refine px_Sx ms_X6_235 A_X6_mixed rfl rfl (Nat.le_of_ble_eq_true rfl) (Nat.le_of_ble_eq_true rfl) (Nat.le_of_ble_eq_true rfl) dX6_digest_188 ?_
    refine sw_lstore_n (i := 1) dX6_digest_191 rfl (Nat.le_of_ble_eq_true rfl) rfl ?_
    refine sw_lo (lo2 := [some (.ref 0), some (.long _), none, some (.int _)]) rfl ?_
    refine sw_ins (pc2 := 192) rfl rfl ?_
    refine sw_ic 0 dX6_digest_192 ?_
    refine sw_istore_n (i := 3) dX6_digest_193 rfl (Nat.le_of_ble_eq_true rfl) rfl ?_
    refine sw_lo (lo2 := [some (.ref 0), some (.long _), none, some (.int _)]) rfl ?_
    exact y1
  have K7 : ∀ i, i ≤ 2 → ∀ d, RC d r V n H S t T tl → ∃ d1, SW yX6_digest cX6_digest 4 (some .long) [] 9 none 149 [some (.ref 0), some (.long (fo (fun i => bI (t i)) (dg5 V n) i)), none, some (.int (nI i))] [] 75 (W0 d r J) 0 0 (.inl (some (.long (dig V n t T tl)))) 75 (W0 d1 r J) ∧ RC d1 r V n H S t T tl ∧ fm d d1 := by
    refine am_loop (2) ?_ ?_
    · intro d h
      obtain ⟨d1, y1, y2, y3⟩ := K8 d h
      refine ⟨d1, ?_, y2, y3⟩
      refine sw_iload_n (i := 3) dX6_digest_149 rfl rfl ?_
      refine sw_ic 2 dX6_digest_150 ?_
      refine sw_ic_ge (tgt := 179) dX6_digest_151 rfl (fun _ => ?_) (fun h9 => absurd (nI_le (Nat.le_refl _) (by decide)) h9)
      exact y1
    · intro i hi ih d h
      have hz : d 51 i = bI (t i) := by
        match i, hi with
        | 0, _ => exact rcT0 h
        | 1, _ => exact rcT1 h
      obtain ⟨d1, y1, y2, y3⟩ := ih d h
      refine ⟨d1, ?_, y2, y3⟩
      have hfo : fo (fun i => bI (t i)) (dg5 V n) (i + 1) = 31 * fo (fun i => bI (t i)) (dg5 V n) i + (bI (t i)).toInt64 := rfl
      cases ht : t i with
      | false =>
        rw [ht] at hz
        rw [hfo, ht, show (bI false).toInt64 = (0 : Int64) by decide] at y1
        refine sw_iload_n (i := 3) dX6_digest_149 rfl rfl ?_
        refine sw_ic 2 dX6_digest_150 ?_
        refine sw_ic_ge (tgt := 179) dX6_digest_151 rfl (fun h9 => absurd h9 (nI_ge hi (by decide))) (fun _ => ?_)
        refine sw_lload_n (i := 1) dX6_digest_154 rfl rfl ?_
        refine sw_aload_n (i := 0) dX6_digest_155 rfl rfl ?_
        refine sx_getR (q := 51) f_X6_41 (by decide) kr_0_5 dX6_digest_156 ?_
        refine sw_iload_n (i := 3) dX6_digest_159 rfl rfl ?_
        refine sw_ins (pc2 := 160) rfl rfl ?_
        refine sx_zaldE (i) (nI 0) hz rfl rfl (by omega) dX6_digest_160 ?_
        refine sw_if_eq (tgt := 168) dX6_digest_161 rfl (fun _ => ?_) (fun h9 => absurd (by decide) h9)
        refine sw_lc (v := 0) dX6_digest_168 (by decide) ?_
        refine px_Sx ms_X6_235 A_X6_mixed rfl rfl (Nat.le_of_ble_eq_true rfl) (Nat.le_of_ble_eq_true rfl) (Nat.le_of_ble_eq_true rfl) dX6_digest_169 ?_
        refine sw_lstore_n (i := 1) dX6_digest_172 rfl (Nat.le_of_ble_eq_true rfl) rfl ?_
        refine sw_lo (lo2 := [some (.ref 0), some (.long _), none, some (.int _)]) rfl ?_
        refine sw_iinc (i := 3) (v := nI (i + 1)) dX6_digest_173 rfl (nI_1 _) (Nat.le_of_ble_eq_true rfl) rfl ?_
        refine sw_lo (lo2 := [some (.ref 0), some (.long _), none, some (.int _)]) rfl ?_
        refine sw_goto (tgt := 149) dX6_digest_176 rfl ?_
        exact y1
      | true =>
        rw [ht] at hz
        rw [hfo, ht, show (bI true).toInt64 = (1 : Int64) by decide] at y1
        refine sw_iload_n (i := 3) dX6_digest_149 rfl rfl ?_
        refine sw_ic 2 dX6_digest_150 ?_
        refine sw_ic_ge (tgt := 179) dX6_digest_151 rfl (fun h9 => absurd h9 (nI_ge hi (by decide))) (fun _ => ?_)
        refine sw_lload_n (i := 1) dX6_digest_154 rfl rfl ?_
        refine sw_aload_n (i := 0) dX6_digest_155 rfl rfl ?_
        refine sx_getR (q := 51) f_X6_41 (by decide) kr_0_5 dX6_digest_156 ?_
        refine sw_iload_n (i := 3) dX6_digest_159 rfl rfl ?_
        refine sw_ins (pc2 := 160) rfl rfl ?_
        refine sx_zaldE (i) (nI 1) hz rfl rfl (by omega) dX6_digest_160 ?_
        refine sw_if_eq (tgt := 168) dX6_digest_161 rfl (fun h9 => absurd h9 (by decide)) (fun _ => ?_)
        refine sw_lc (v := 1) dX6_digest_164 (by decide) ?_
        refine sw_goto (tgt := 169) dX6_digest_165 rfl ?_
        refine px_Sx ms_X6_235 A_X6_mixed rfl rfl (Nat.le_of_ble_eq_true rfl) (Nat.le_of_ble_eq_true rfl) (Nat.le_of_ble_eq_true rfl) dX6_digest_169 ?_
        refine sw_lstore_n (i := 1) dX6_digest_172 rfl (Nat.le_of_ble_eq_true rfl) rfl ?_
        refine sw_lo (lo2 := [some (.ref 0), some (.long _), none, some (.int _)]) rfl ?_
        refine sw_iinc (i := 3) (v := nI (i + 1)) dX6_digest_173 rfl (nI_1 _) (Nat.le_of_ble_eq_true rfl) rfl ?_
        refine sw_lo (lo2 := [some (.ref 0), some (.long _), none, some (.int _)]) rfl ?_
        refine sw_goto (tgt := 149) dX6_digest_176 rfl ?_
        exact y1
  have K6 : ∀ d, RC d r V n H S t T tl → ∃ d1, SW yX6_digest cX6_digest 4 (some .long) [] 9 none 103 [some (.ref 0), some (.long (dg3 V n)), none, some (.int (nI (nv V 1)))] [] 75 (W0 d r J) 0 0 (.inl (some (.long (dig V n t T tl)))) 75 (W0 d1 r J) ∧ RC d1 r V n H S t T tl ∧ fm d d1 := by
    intro d h
    obtain ⟨e1, x1, x2, x3⟩ := C0_homeIn (J := J) h iv
    obtain ⟨e2, u1, u2, u3⟩ := C1_homeIn (J := J) x2 iv
    have v1 := O_richest (J := J) u2 iv
    have w1 := O_richShare (J := J) u2 iv
    have z1 := O_bitsOfShare (d := e2) (r := r) (J := J) b1 b2 b3 b4
    obtain ⟨d1, y1, y2, y3⟩ := K7 0 (Nat.zero_le _) e2 u2
    refine ⟨d1, ?_, y2, fm_trans x3 (fm_trans u3 y3)⟩
    refine sw_lload_n (i := 1) dX6_digest_103 rfl rfl ?_
    refine sw_aload_n (i := 0) dX6_digest_104 rfl rfl ?_
    refine sw_ic 0 dX6_digest_105 ?_
    refine px_Vx mv_X6_246 x1 rfl rfl (Nat.le_of_ble_eq_true rfl) (Nat.le_of_ble_eq_true rfl) ko_0 (Nat.le_of_ble_eq_true rfl) dX6_digest_106 ?_
    refine sw_i2l dX6_digest_109 ?_
    refine px_Sx ms_X6_235 A_X6_mixed rfl rfl (Nat.le_of_ble_eq_true rfl) (Nat.le_of_ble_eq_true rfl) (Nat.le_of_ble_eq_true rfl) dX6_digest_110 ?_
    refine sw_lstore_n (i := 1) dX6_digest_113 rfl (Nat.le_of_ble_eq_true rfl) rfl ?_
    refine sw_lo (lo2 := [some (.ref 0), some (.long _), none, some (.int _)]) rfl ?_
    refine sw_ins (pc2 := 114) rfl rfl ?_
    refine sw_lload_n (i := 1) dX6_digest_114 rfl rfl ?_
    refine sw_aload_n (i := 0) dX6_digest_115 rfl rfl ?_
    refine sw_ic 1 dX6_digest_116 ?_
    refine px_Vx mv_X6_246 u1 rfl rfl (Nat.le_of_ble_eq_true rfl) (Nat.le_of_ble_eq_true rfl) ko_0 (Nat.le_of_ble_eq_true rfl) dX6_digest_117 ?_
    refine sw_i2l dX6_digest_120 ?_
    refine px_Sx ms_X6_235 A_X6_mixed rfl rfl (Nat.le_of_ble_eq_true rfl) (Nat.le_of_ble_eq_true rfl) (Nat.le_of_ble_eq_true rfl) dX6_digest_121 ?_
    refine sw_lstore_n (i := 1) dX6_digest_124 rfl (Nat.le_of_ble_eq_true rfl) rfl ?_
    refine sw_lo (lo2 := [some (.ref 0), some (.long _), none, some (.int _)]) rfl ?_
    refine sw_lload_n (i := 1) dX6_digest_125 rfl rfl ?_
    refine sw_ins (pc2 := 126) rfl rfl ?_
    refine sw_aload_n (i := 0) dX6_digest_126 rfl rfl ?_
    refine px_Vx mv_X6_227 v1 rfl rfl (Nat.le_of_ble_eq_true rfl) (Nat.le_of_ble_eq_true rfl) ko_0 (Nat.le_of_ble_eq_true rfl) dX6_digest_127 ?_
    refine sw_i2l dX6_digest_130 ?_
    refine px_Sx ms_X6_235 A_X6_mixed rfl rfl (Nat.le_of_ble_eq_true rfl) (Nat.le_of_ble_eq_true rfl) (Nat.le_of_ble_eq_true rfl) dX6_digest_131 ?_
    refine sw_lstore_n (i := 1) dX6_digest_134 rfl (Nat.le_of_ble_eq_true rfl) rfl ?_
    refine sw_lo (lo2 := [some (.ref 0), some (.long _), none, some (.int _)]) rfl ?_
    refine sw_lload_n (i := 1) dX6_digest_135 rfl rfl ?_
    refine sw_aload_n (i := 0) dX6_digest_136 rfl rfl ?_
    refine px_Vx mv_X6_249 w1 rfl rfl (Nat.le_of_ble_eq_true rfl) (Nat.le_of_ble_eq_true rfl) ko_0 (Nat.le_of_ble_eq_true rfl) dX6_digest_137 ?_
    refine sw_ins (pc2 := 140) rfl rfl ?_
    refine px_Sx ms_X6_253 z1 rfl rfl (Nat.le_of_ble_eq_true rfl) (Nat.le_of_ble_eq_true rfl) (Nat.le_of_ble_eq_true rfl) dX6_digest_140 ?_
    refine px_Sx ms_X6_235 A_X6_mixed rfl rfl (Nat.le_of_ble_eq_true rfl) (Nat.le_of_ble_eq_true rfl) (Nat.le_of_ble_eq_true rfl) dX6_digest_143 ?_
    refine sw_lstore_n (i := 1) dX6_digest_146 rfl (Nat.le_of_ble_eq_true rfl) rfl ?_
    refine sw_lo (lo2 := [some (.ref 0), some (.long _), none, some (.int _)]) rfl ?_
    refine sw_ic 0 dX6_digest_147 ?_
    refine sw_istore_n (i := 3) dX6_digest_148 rfl (Nat.le_of_ble_eq_true rfl) rfl ?_
    refine sw_lo (lo2 := [some (.ref 0), some (.long _), none, some (.int _)]) rfl ?_
    exact y1
  have K5 : ∀ i, i ≤ nv V 1 → ∀ d, RC d r V n H S t T tl → ∃ d1, SW yX6_digest cX6_digest 4 (some .long) [] 9 none 79 [some (.ref 0), some (.long (foF (wpF V) (dg2 V n) i)), none, some (.int (nI i))] [] 75 (W0 d r J) 0 0 (.inl (some (.long (dig V n t T tl)))) 75 (W0 d1 r J) ∧ RC d1 r V n H S t T tl ∧ fm d d1 := by
    refine am_loop (nv V 1) ?_ ?_
    · intro d h
      obtain ⟨d1, y1, y2, y3⟩ := K6 d h
      refine ⟨d1, ?_, y2, y3⟩
      refine sw_iload_n (i := 3) dX6_digest_79 rfl rfl ?_
      refine sw_aload_n (i := 0) dX6_digest_80 rfl rfl ?_
      refine sx_getR (q := 1) f_X6_10 (by decide) kr_0_0 dX6_digest_81 ?_
      refine sx_getIE (nI (nv V 1)) (((cV_many d 1).trans (congrFun (rcV h) 1)).trans okM.1) f_X6_190 (by decide) kf_1_5 dX6_digest_84 ?_
      refine sw_ic_ge (tgt := 103) dX6_digest_87 rfl (fun _ => ?_) (fun h9 => absurd (nI_le (Nat.le_refl _) (by omega)) h9)
      exact y1
    · intro i hi ih d h
      obtain ⟨e1, x1, x2, x3⟩ := C_withPromise (J := J) (q := i) (hh := foF (wpF V) (dg2 V n) i) h iv hi
      obtain ⟨d1, y1, y2, y3⟩ := ih e1 x2
      refine ⟨d1, ?_, y2, fm_trans x3 y3⟩
      refine sw_iload_n (i := 3) dX6_digest_79 rfl rfl ?_
      refine sw_aload_n (i := 0) dX6_digest_80 rfl rfl ?_
      refine sx_getR (q := 1) f_X6_10 (by decide) kr_0_0 dX6_digest_81 ?_
      refine sx_getIE (nI (nv V 1)) (((cV_many d 1).trans (congrFun (rcV h) 1)).trans okM.1) f_X6_190 (by decide) kf_1_5 dX6_digest_84 ?_
      refine sw_ic_ge (tgt := 103) dX6_digest_87 rfl (fun h9 => absurd h9 (nI_ge hi (by omega))) (fun _ => ?_)
      refine sw_aload_n (i := 0) dX6_digest_90 rfl rfl ?_
      refine sw_lload_n (i := 1) dX6_digest_91 rfl rfl ?_
      refine sw_ins (pc2 := 92) rfl rfl ?_
      refine sw_iload_n (i := 3) dX6_digest_92 rfl rfl ?_
      refine px_Vx mv_X6_243 x1 rfl rfl (Nat.le_of_ble_eq_true rfl) (Nat.le_of_ble_eq_true rfl) ko_0 (Nat.le_of_ble_eq_true rfl) dX6_digest_93 ?_
      refine sw_lstore_n (i := 1) dX6_digest_96 rfl (Nat.le_of_ble_eq_true rfl) rfl ?_
      refine sw_lo (lo2 := [some (.ref 0), some (.long _), none, some (.int _)]) rfl ?_
      refine sw_iinc (i := 3) (v := nI (i + 1)) dX6_digest_97 rfl (nI_1 _) (Nat.le_of_ble_eq_true rfl) rfl ?_
      refine sw_lo (lo2 := [some (.ref 0), some (.long _), none, some (.int _)]) rfl ?_
      refine sw_goto (tgt := 79) dX6_digest_100 rfl ?_
      exact y1
  have K3 : ∀ i, i ≤ 8 → ∀ d, RC d r V n H S t T tl → ∃ d1, SW yX6_digest cX6_digest 4 (some .long) [] 9 none 58 [some (.ref 0), some (.long (foF (wiF V) (dg1 V n) i)), none, some (.int (nI i))] [] 75 (W0 d r J) 0 0 (.inl (some (.long (dig V n t T tl)))) 75 (W0 d1 r J) ∧ RC d1 r V n H S t T tl ∧ fm d d1 := by
    refine am_loop (8) ?_ ?_
    · intro d h
      obtain ⟨d1, y1, y2, y3⟩ := K5 0 (Nat.zero_le _) d h
      refine ⟨d1, ?_, y2, y3⟩
      refine sw_iload_n (i := 3) dX6_digest_58 rfl rfl ?_
      refine sw_bi 8 dX6_digest_59 (by decide +kernel) ?_
      refine sw_ic_ge (tgt := 77) dX6_digest_61 rfl (fun _ => ?_) (fun h9 => absurd (nI_le (Nat.le_refl _) (by decide)) h9)
      refine sw_ic 0 dX6_digest_77 ?_
      refine sw_istore_n (i := 3) dX6_digest_78 rfl (Nat.le_of_ble_eq_true rfl) rfl ?_
      refine sw_lo (lo2 := [some (.ref 0), some (.long _), none, some (.int _)]) rfl ?_
      exact y1
    · intro i hi ih d h
      obtain ⟨e1, x1, x2, x3⟩ := C_withIslander (J := J) (a := i) (hh := foF (wiF V) (dg1 V n) i) h iv hi
      obtain ⟨d1, y1, y2, y3⟩ := ih e1 x2
      refine ⟨d1, ?_, y2, fm_trans x3 y3⟩
      refine sw_iload_n (i := 3) dX6_digest_58 rfl rfl ?_
      refine sw_bi 8 dX6_digest_59 (by decide +kernel) ?_
      refine sw_ic_ge (tgt := 77) dX6_digest_61 rfl (fun h9 => absurd h9 (nI_ge hi (by decide))) (fun _ => ?_)
      refine sw_aload_n (i := 0) dX6_digest_64 rfl rfl ?_
      refine sw_lload_n (i := 1) dX6_digest_65 rfl rfl ?_
      refine sw_iload_n (i := 3) dX6_digest_66 rfl rfl ?_
      refine px_Vx mv_X6_239 x1 rfl rfl (Nat.le_of_ble_eq_true rfl) (Nat.le_of_ble_eq_true rfl) ko_0 (Nat.le_of_ble_eq_true rfl) dX6_digest_67 ?_
      refine sw_ins (pc2 := 70) rfl rfl ?_
      refine sw_lstore_n (i := 1) dX6_digest_70 rfl (Nat.le_of_ble_eq_true rfl) rfl ?_
      refine sw_lo (lo2 := [some (.ref 0), some (.long _), none, some (.int _)]) rfl ?_
      refine sw_iinc (i := 3) (v := nI (i + 1)) dX6_digest_71 rfl (nI_1 _) (Nat.le_of_ble_eq_true rfl) rfl ?_
      refine sw_lo (lo2 := [some (.ref 0), some (.long _), none, some (.int _)]) rfl ?_
      refine sw_goto (tgt := 58) dX6_digest_74 rfl ?_
      exact y1
  have K2 : ∀ i, i ≤ 4 → ∀ d, RC d r V n H S t T tl → ∃ d1, SW yX6_digest cX6_digest 4 (some .long) [] 9 none 31 [some (.ref 0), some (.long (fo (fun c => V (7 + c)) (fo (cnt V n) 3643 10) i)), none, some (.int (nI i))] [] 75 (W0 d r J) 0 0 (.inl (some (.long (dig V n t T tl)))) 75 (W0 d1 r J) ∧ RC d1 r V n H S t T tl ∧ fm d d1 := by
    refine am_loop (4) ?_ ?_
    · intro d h
      obtain ⟨d1, y1, y2, y3⟩ := K3 0 (Nat.zero_le _) d h
      refine ⟨d1, ?_, y2, y3⟩
      refine sw_iload_n (i := 3) dX6_digest_31 rfl rfl ?_
      refine sw_ic 4 dX6_digest_32 ?_
      refine sw_ic_ge (tgt := 56) dX6_digest_33 rfl (fun _ => ?_) (fun h9 => absurd (nI_le (Nat.le_refl _) (by decide)) h9)
      refine sw_ic 0 dX6_digest_56 ?_
      refine sw_istore_n (i := 3) dX6_digest_57 rfl (Nat.le_of_ble_eq_true rfl) rfl ?_
      refine sw_lo (lo2 := [some (.ref 0), some (.long _), none, some (.int _)]) rfl ?_
      exact y1
    · intro i hi ih d h
      obtain ⟨d1, y1, y2, y3⟩ := ih d h
      refine ⟨d1, ?_, y2, y3⟩
      have x1 := A_X2_worthOf (d := d) (r := r) (J := J) (b := 1) (c := i) isB_1 hi
      rw [rcV h] at x1
      refine sw_iload_n (i := 3) dX6_digest_31 rfl rfl ?_
      refine sw_ic 4 dX6_digest_32 ?_
      refine sw_ic_ge (tgt := 56) dX6_digest_33 rfl (fun h9 => absurd h9 (nI_ge hi (by decide))) (fun _ => ?_)
      refine sw_lload_n (i := 1) dX6_digest_36 rfl rfl ?_
      refine sw_aload_n (i := 0) dX6_digest_37 rfl rfl ?_
      refine sx_getR (q := 1) f_X6_10 (by decide) kr_0_0 dX6_digest_38 ?_
      refine sw_iload_n (i := 3) dX6_digest_41 rfl rfl ?_
      refine sw_ins (pc2 := 42) rfl rfl ?_
      refine px_Vx mv_X6_105 x1 rfl rfl (Nat.le_of_ble_eq_true rfl) (Nat.le_of_ble_eq_true rfl) ko_1 (Nat.le_of_ble_eq_true rfl) dX6_digest_42 ?_
      refine sw_i2l dX6_digest_45 ?_
      refine px_Sx ms_X6_235 A_X6_mixed rfl rfl (Nat.le_of_ble_eq_true rfl) (Nat.le_of_ble_eq_true rfl) (Nat.le_of_ble_eq_true rfl) dX6_digest_46 ?_
      refine sw_lstore_n (i := 1) dX6_digest_49 rfl (Nat.le_of_ble_eq_true rfl) rfl ?_
      refine sw_lo (lo2 := [some (.ref 0), some (.long _), none, some (.int _)]) rfl ?_
      refine sw_iinc (i := 3) (v := nI (i + 1)) dX6_digest_50 rfl (nI_1 _) (Nat.le_of_ble_eq_true rfl) rfl ?_
      refine sw_lo (lo2 := [some (.ref 0), some (.long _), none, some (.int _)]) rfl ?_
      refine sw_goto (tgt := 31) dX6_digest_53 rfl ?_
      exact y1
  have K1 : ∀ i, i ≤ 10 → ∀ d, RC d r V n H S t T tl → ∃ d1, SW yX6_digest cX6_digest 4 (some .long) [] 9 none 6 [some (.ref 0), some (.long (fo (cnt V n) 3643 i)), none, some (.int (nI i))] [] 75 (W0 d r J) 0 0 (.inl (some (.long (dig V n t T tl)))) 75 (W0 d1 r J) ∧ RC d1 r V n H S t T tl ∧ fm d d1 := by
    refine am_loop (10) ?_ ?_
    · intro d h
      obtain ⟨d1, y1, y2, y3⟩ := K2 0 (Nat.zero_le _) d h
      refine ⟨d1, ?_, y2, y3⟩
      refine sw_iload_n (i := 3) dX6_digest_6 rfl rfl ?_
      refine sw_bi 9 dX6_digest_7 (by decide +kernel) ?_
      refine sw_ic_gt (tgt := 29) dX6_digest_9 rfl (fun _ => ?_) (fun h9 => absurd (nI_lt (by decide) (by decide)) h9)
      refine sw_ic 0 dX6_digest_29 ?_
      refine sw_istore_n (i := 3) dX6_digest_30 rfl (Nat.le_of_ble_eq_true rfl) rfl ?_
      refine sw_lo (lo2 := [some (.ref 0), some (.long _), none, some (.int _)]) rfl ?_
      exact y1
    · intro i hi ih d h
      obtain ⟨e1, x1, x2, x3⟩ := C_count (J := J) (k := i) h iv hi
      obtain ⟨d1, y1, y2, y3⟩ := ih e1 x2
      refine ⟨d1, ?_, y2, fm_trans x3 y3⟩
      refine sw_iload_n (i := 3) dX6_digest_6 rfl rfl ?_
      refine sw_bi 9 dX6_digest_7 (by decide +kernel) ?_
      refine sw_ic_gt (tgt := 29) dX6_digest_9 rfl (fun h9 => absurd h9 (nI_nlt (by omega) (by decide))) (fun _ => ?_)
      refine sw_lload_n (i := 1) dX6_digest_12 rfl rfl ?_
      refine sw_aload_n (i := 0) dX6_digest_13 rfl rfl ?_
      refine sw_iload_n (i := 3) dX6_digest_14 rfl rfl ?_
      refine px_Vx mv_X6_232 x1 rfl rfl (Nat.le_of_ble_eq_true rfl) (Nat.le_of_ble_eq_true rfl) ko_0 (Nat.le_of_ble_eq_true rfl) dX6_digest_15 ?_
      refine sw_ins (pc2 := 18) rfl rfl ?_
      refine sw_i2l dX6_digest_18 ?_
      refine px_Sx ms_X6_235 A_X6_mixed rfl rfl (Nat.le_of_ble_eq_true rfl) (Nat.le_of_ble_eq_true rfl) (Nat.le_of_ble_eq_true rfl) dX6_digest_19 ?_
      refine sw_lstore_n (i := 1) dX6_digest_22 rfl (Nat.le_of_ble_eq_true rfl) rfl ?_
      refine sw_lo (lo2 := [some (.ref 0), some (.long _), none, some (.int _)]) rfl ?_
      refine sw_iinc (i := 3) (v := nI (i + 1)) dX6_digest_23 rfl (nI_1 _) (Nat.le_of_ble_eq_true rfl) rfl ?_
      refine sw_lo (lo2 := [some (.ref 0), some (.long _), none, some (.int _)]) rfl ?_
      refine sw_goto (tgt := 6) dX6_digest_26 rfl ?_
      exact y1
  obtain ⟨d1, y1, y2, y3⟩ := K1 0 (Nat.zero_le _) d h
  refine ⟨d1, op_of pl_X6_digest (Nat.le_of_ble_eq_true rfl) ?_, y2, y3⟩
  refine sw_ldc2 kc_X6_230 dX6_digest_0 ?_
  refine sw_lstore_n (i := 1) dX6_digest_3 rfl (Nat.le_of_ble_eq_true rfl) rfl ?_
  refine sw_lo (lo2 := [some (.ref 0), some (.long _), none, none]) rfl ?_
  refine sw_ic 0 dX6_digest_4 ?_
  refine sw_istore_n (i := 3) dX6_digest_5 rfl (Nat.le_of_ble_eq_true rfl) rfl ?_
  refine sw_lo (lo2 := [some (.ref 0), some (.long _), none, some (.int _)]) rfl ?_
  exact y1
