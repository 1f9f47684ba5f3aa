/-! THE LAW'S WRAPPERS (own work, written by wip/tools) -/
/-- a contract of a wrapper: one new cell of six places at most -/
def WP (w0 : Cond) (y : MethodName) (lv : Nat) (as : List Value) (d : Nat → Nat → Int32) (r : Nat → Nat → Option Nat) (J : Nat → Nat → Int64) (v : Option Value) (d1 : Nat → Nat → Int32) (r1 : Nat → Nat → Option Nat) (J1 : Nat → Nat → Int64) : Prop := am_AM w0 y lv as 75 (W0 d r J) v 75 (W0 d1 r1 J1) 1 6
section WZ3
variable {y : MethodName} {cc : ByteArray} {nL : Nat} {ret : Option FieldType} {xt : List (Nat × Nat × Nat × Nat)} {lv : Nat} {sc : Option (Nat × (Nat → Int32))} {pc : Nat} {lo : List (Option Value)} {st : List Value} {k n : Nat} {o : Option Value ⊕ String} {N' : Nat} {aw' : Nat → am_E} {d : Nat → Nat → Int32} {r : Nat → Nat → Option Nat} {J : Nat → Nat → Int64}
variable {idx q ci na nL2 lv2 : Nat} {y2 : MethodName} {cc2 : ByteArray} {ret2 : Option FieldType} {As st0 : List Value} {x : Value} {E : String} {d1 : Nat → Nat → Int32} {r1 : Nat → Nat → Option Nat} {J1 : Nat → Nat → Int64}
theorem wp_of {v : Option Value} {as : List Value} (hy : plainName y.cls = true) (hlen : (as.map fun v => v.category).sum ≤ nL) (h : SW y cc nL ret xt lv none 0 (am_pad nL (am_lo as)) [] 75 (W0 d r J) 1 6 (.inl v) 75 (W0 d1 r1 J1)) : WP (.codeWith y cc nL ret xt) y lv as d r J v d1 r1 J1 := am_ofW hy hlen h
theorem px_VC (G : am_LV y.cls idx ci (.code y2 cc2 nL2 ret2) y2 na) (hAC : OT (.code y2 cc2 nL2 ret2) y2 lv2 (.ref q :: As) d r J E) (hs : st0 = As.reverse ++ .ref q :: st) (hlen : As.length = na) (hlv2 : lv2 < lv) (hnL2 : nL2 ≤ 11) (hq : kO q ci) (hst9 : (st.map fun v => v.category).sum ≤ 8) (dd : decode cc pc = .ok (.invokevirtual idx, 3)) {i9 pc9 h8 : Nat} {pre9 suf9 : List (Nat × Nat × Nat × Nat)} {x9 : Nat × Nat × Nat × Nat} (hxt9 : xt = pre9 ++ x9 :: suf9) (hpass : ∀ z ∈ tableOf pre9, covers z pc = false ∨ (z.catchType ≠ 0 ∧ ∃ nm : String, Cond.classLink y.cls z.catchType nm ∈ am_W ∧ ∀ (al : am_A) (A : Nat → Prop) (U : State) (H : Heap), am_Env al A U H → va_Nc E nm U)) (hcov : covers (⟨x9.1, x9.2.1, x9.2.2.1, x9.2.2.2⟩ : ExceptionTableEntry) pc = true) (hc0 : x9.2.2.2 ≠ 0) (hcl9 : Cond.classLink y.cls x9.2.2.2 E ∈ am_W) (hEx : E ∈ am_Xs) (hh8 : x9.2.2.1 = h8) (hi2 : i9 < nL) (hc9 : am_c1 lo i9 = true) (das : decode cc h8 = .ok (.astore i9, 2) ∧ pc9 = h8 + 2 ∨ ∃ f9 : Fin 4, decode cc h8 = .ok (.astore_n f9, 1) ∧ (f9 : Nat) = i9 ∧ pc9 = h8 + 1)
    (k9 : SW y cc nL ret xt lv sc (pc9) (am_st lo i9 none) ([]) 75 (W0 d r J) 0 0 o N' aw') : SW y cc nL ret xt lv sc (pc) (lo) (st0) 75 (W0 d r J) 1 6 o N' aw' := by
  obtain ⟨fs, hf⟩ := hq.2 (d q) (r q) (J q)
  exact sw_callVC (cty := 0) (nm9 := "") (k2 := 0) (n2 := 0) G hAC hs hlen hlv2 hnL2 hq.1 hf hst9 (by omega) (by omega) dd hxt9 hpass hcov hc0 hcl9 hEx hh8 hi2 hc9 das k9
end WZ3
theorem cl_L_13 : Cond.classLink RL 13 "java/lang/IllegalStateException" ∈ am_W := am_in (i := 537) (by decide +kernel) (by decide +kernel)
theorem cl_L_19 : Cond.classLink RL 19 "java/lang/IndexOutOfBoundsException" ∈ am_W := am_in (i := 595) (by decide +kernel) (by decide +kernel)
theorem cl_L_25 : Cond.classLink RL 25 "java/lang/IllegalArgumentException" ∈ am_W := am_in (i := 607) (by decide +kernel) (by decide +kernel)
set_option maxRecDepth 100000 in
set_option maxHeartbeats 4000000 in
theorem WC_storm {d : Nat → Nat → Int32} {r : Nat → Nat → Option Nat} {J : Nat → Nat → Int64}  {v : Int32} {d1 : Nat → Nat → Int32} {r1 : Nat → Nat → Option Nat} (h : OP kX6_storm yX6_storm 6 [.ref 0] d r J (some (.int v)) d1 r1 J) : WP kL_storm yL_storm 7 [.ref 0, .ref 74] d r J (some (.int (nI 0))) d1 r1 (d2 J 74 0 v.toInt64) := by
  refine wp_of pl_L_storm (Nat.le_of_ble_eq_true rfl) ?_
  refine sw_aload_n (i := 1) dL_storm_0 rfl rfl ?_
  refine sw_ic 0 dL_storm_1 ?_
  refine sw_aload_n (i := 0) dL_storm_2 rfl rfl ?_
  refine px_Vx mv_L_7 h rfl rfl (Nat.le_of_ble_eq_true rfl) (Nat.le_of_ble_eq_true rfl) ko_0 (Nat.le_of_ble_eq_true rfl) dL_storm_3 ?_
  refine sw_i2l dL_storm_6 ?_
  refine sx_last (0) rfl rfl (by omega) dL_storm_7 ?_
  refine sw_goto (tgt := 14) dL_storm_8 rfl ?_
  refine sw_ins (pc2 := 14) rfl rfl ?_
  refine sw_ic 0 dL_storm_14 ?_
  exact sw_ireturn rfl dL_storm_15
set_option maxRecDepth 100000 in
set_option maxHeartbeats 4000000 in
theorem WT1_storm {d : Nat → Nat → Int32} {r : Nat → Nat → Option Nat} {J : Nat → Nat → Int64}  (h : OT kX6_storm yX6_storm 6 [.ref 0] d r J "java/lang/IllegalStateException") : WP kL_storm yL_storm 7 [.ref 0, .ref 74] d r J (some (.int (nI 1))) d r J := by
  refine wp_of pl_L_storm (Nat.le_of_ble_eq_true rfl) ?_
  refine sw_aload_n (i := 1) dL_storm_0 rfl rfl ?_
  refine sw_ic 0 dL_storm_1 ?_
  refine sw_aload_n (i := 0) dL_storm_2 rfl rfl ?_
  refine px_VC mv_L_7 h rfl rfl (Nat.le_of_ble_eq_true rfl) (Nat.le_of_ble_eq_true rfl) ko_0 (Nat.le_of_ble_eq_true rfl) dL_storm_3 (i9 := 2) (pc9 := 12) (pre9 := []) (suf9 := []) (x9 := (0, 8, 11, 13)) rfl (by intro z hz; simp [tableOf] at hz) (by decide) (by decide) cl_L_13 (by decide +kernel) rfl (Nat.le_of_ble_eq_true rfl) rfl (Or.inr ⟨_, dL_storm_11, rfl, rfl⟩) ?_
  refine sw_lo (lo2 := [some (.ref 0), some (.ref 74), none]) rfl ?_
  refine sw_ic 1 dL_storm_12 ?_
  exact sw_ireturn rfl dL_storm_13
set_option maxRecDepth 100000 in
set_option maxHeartbeats 4000000 in
theorem WC_cross {d : Nat → Nat → Int32} {r : Nat → Nat → Option Nat} {J : Nat → Nat → Int64} {a1 a2 : Int32} {v : Int32} {d1 : Nat → Nat → Int32} {r1 : Nat → Nat → Option Nat} (h : OP kX6_cross yX6_cross 7 [.ref 0, .int a1, .int a2] d r J (some (.int v)) d1 r1 J) : WP kL_cross yL_cross 8 [.ref 0, .int a1, .int a2, .ref 74] d r J (some (.int (nI 0))) d1 r1 (d2 J 74 0 v.toInt64) := by
  refine wp_of pl_L_cross (Nat.le_of_ble_eq_true rfl) ?_
  refine sw_aload_n (i := 3) dL_cross_0 rfl rfl ?_
  refine sw_ic 0 dL_cross_1 ?_
  refine sw_aload_n (i := 0) dL_cross_2 rfl rfl ?_
  refine sw_iload_n (i := 1) dL_cross_3 rfl rfl ?_
  refine sw_iload_n (i := 2) dL_cross_4 rfl rfl ?_
  refine px_Vx mv_L_15 h rfl rfl (Nat.le_of_ble_eq_true rfl) (Nat.le_of_ble_eq_true rfl) ko_0 (Nat.le_of_ble_eq_true rfl) dL_cross_5 ?_
  refine sw_i2l dL_cross_8 ?_
  refine sw_ins (pc2 := 9) rfl rfl ?_
  refine sx_last (0) rfl rfl (by omega) dL_cross_9 ?_
  refine sw_goto (tgt := 17) dL_cross_10 rfl ?_
  refine sw_ic 0 dL_cross_17 ?_
  exact sw_ireturn rfl dL_cross_18
set_option maxRecDepth 100000 in
set_option maxHeartbeats 4000000 in
theorem WT1_cross {d : Nat → Nat → Int32} {r : Nat → Nat → Option Nat} {J : Nat → Nat → Int64} {a1 a2 : Int32} (h : OT kX6_cross yX6_cross 7 [.ref 0, .int a1, .int a2] d r J "java/lang/IndexOutOfBoundsException") : WP kL_cross yL_cross 8 [.ref 0, .int a1, .int a2, .ref 74] d r J (some (.int (nI 1))) d r J := by
  refine wp_of pl_L_cross (Nat.le_of_ble_eq_true rfl) ?_
  refine sw_aload_n (i := 3) dL_cross_0 rfl rfl ?_
  refine sw_ic 0 dL_cross_1 ?_
  refine sw_aload_n (i := 0) dL_cross_2 rfl rfl ?_
  refine sw_iload_n (i := 1) dL_cross_3 rfl rfl ?_
  refine sw_iload_n (i := 2) dL_cross_4 rfl rfl ?_
  refine px_VC mv_L_15 h rfl rfl (Nat.le_of_ble_eq_true rfl) (Nat.le_of_ble_eq_true rfl) ko_0 (Nat.le_of_ble_eq_true rfl) dL_cross_5 (i9 := 4) (pc9 := 15) (pre9 := []) (suf9 := []) (x9 := (0, 10, 13, 19)) rfl (by intro z hz; simp [tableOf] at hz) (by decide) (by decide) cl_L_19 (by decide +kernel) rfl (Nat.le_of_ble_eq_true rfl) rfl (Or.inl ⟨dL_cross_13, rfl⟩) ?_
  refine sw_lo (lo2 := [some (.ref 0), some (.int _), some (.int _), some (.ref 74), none]) rfl ?_
  refine sw_ic 1 dL_cross_15 ?_
  refine sw_ins (pc2 := 16) rfl rfl ?_
  exact sw_ireturn rfl dL_cross_16
set_option maxRecDepth 100000 in
set_option maxHeartbeats 4000000 in
theorem WC_trade {d : Nat → Nat → Int32} {r : Nat → Nat → Option Nat} {J : Nat → Nat → Int64} {a1 a2 a3 a4 a5 a6 : Int32} {v : Int32} {d1 : Nat → Nat → Int32} {r1 : Nat → Nat → Option Nat} (h : OP kX6_trade yX6_trade 7 [.ref 0, .int a1, .int a2, .int a3, .int a4, .int a5, .int a6] d r J (some (.int v)) d1 r1 J) : WP kL_trade yL_trade 8 [.ref 0, .int a1, .int a2, .int a3, .int a4, .int a5, .int a6, .ref 74] d r J (some (.int (nI 0))) d1 r1 (d2 J 74 0 v.toInt64) := by
  refine wp_of pl_L_trade (Nat.le_of_ble_eq_true rfl) ?_
  refine sw_aload (i := 7) dL_trade_0 rfl ?_
  refine sw_ic 0 dL_trade_2 ?_
  refine sw_aload_n (i := 0) dL_trade_3 rfl rfl ?_
  refine sw_iload_n (i := 1) dL_trade_4 rfl rfl ?_
  refine sw_iload_n (i := 2) dL_trade_5 rfl rfl ?_
  refine sw_iload_n (i := 3) dL_trade_6 rfl rfl ?_
  refine sw_iload (i := 4) dL_trade_7 rfl ?_
  refine sw_ins (pc2 := 9) rfl rfl ?_
  refine sw_iload (i := 5) dL_trade_9 rfl ?_
  refine sw_iload (i := 6) dL_trade_11 rfl ?_
  refine px_Vx mv_L_21 h rfl rfl (Nat.le_of_ble_eq_true rfl) (Nat.le_of_ble_eq_true rfl) ko_0 (Nat.le_of_ble_eq_true rfl) dL_trade_13 ?_
  refine sw_i2l dL_trade_16 ?_
  refine sx_last (0) rfl rfl (by omega) dL_trade_17 ?_
  refine sw_goto (tgt := 29) dL_trade_18 rfl ?_
  refine sw_ic 0 dL_trade_29 ?_
  exact sw_ireturn rfl dL_trade_30
set_option maxRecDepth 100000 in
set_option maxHeartbeats 4000000 in
theorem WT1_trade {d : Nat → Nat → Int32} {r : Nat → Nat → Option Nat} {J : Nat → Nat → Int64} {a1 a2 a3 a4 a5 a6 : Int32} (h : OT kX6_trade yX6_trade 7 [.ref 0, .int a1, .int a2, .int a3, .int a4, .int a5, .int a6] d r J "java/lang/IndexOutOfBoundsException") : WP kL_trade yL_trade 8 [.ref 0, .int a1, .int a2, .int a3, .int a4, .int a5, .int a6, .ref 74] d r J (some (.int (nI 1))) d r J := by
  refine wp_of pl_L_trade (Nat.le_of_ble_eq_true rfl) ?_
  refine sw_aload (i := 7) dL_trade_0 rfl ?_
  refine sw_ic 0 dL_trade_2 ?_
  refine sw_aload_n (i := 0) dL_trade_3 rfl rfl ?_
  refine sw_iload_n (i := 1) dL_trade_4 rfl rfl ?_
  refine sw_iload_n (i := 2) dL_trade_5 rfl rfl ?_
  refine sw_iload_n (i := 3) dL_trade_6 rfl rfl ?_
  refine sw_iload (i := 4) dL_trade_7 rfl ?_
  refine sw_ins (pc2 := 9) rfl rfl ?_
  refine sw_iload (i := 5) dL_trade_9 rfl ?_
  refine sw_iload (i := 6) dL_trade_11 rfl ?_
  refine px_VC mv_L_21 h rfl rfl (Nat.le_of_ble_eq_true rfl) (Nat.le_of_ble_eq_true rfl) ko_0 (Nat.le_of_ble_eq_true rfl) dL_trade_13 (i9 := 8) (pc9 := 23) (pre9 := []) (suf9 := [(0, 18, 25, 25)]) (x9 := (0, 18, 21, 19)) rfl (by intro z hz; simp [tableOf] at hz) (by decide) (by decide) cl_L_19 (by decide +kernel) rfl (Nat.le_of_ble_eq_true rfl) rfl (Or.inl ⟨dL_trade_21, rfl⟩) ?_
  refine sw_lo (lo2 := [some (.ref 0), some (.int _), some (.int _), some (.int _), some (.int _), some (.int _), some (.int _), some (.ref 74), none]) rfl ?_
  refine sw_ic 1 dL_trade_23 ?_
  exact sw_ireturn rfl dL_trade_24
set_option maxRecDepth 100000 in
set_option maxHeartbeats 4000000 in
theorem WT2_trade {d : Nat → Nat → Int32} {r : Nat → Nat → Option Nat} {J : Nat → Nat → Int64} {a1 a2 a3 a4 a5 a6 : Int32} (h : OT kX6_trade yX6_trade 7 [.ref 0, .int a1, .int a2, .int a3, .int a4, .int a5, .int a6] d r J "java/lang/IllegalArgumentException") : WP kL_trade yL_trade 8 [.ref 0, .int a1, .int a2, .int a3, .int a4, .int a5, .int a6, .ref 74] d r J (some (.int (nI 2))) d r J := by
  refine wp_of pl_L_trade (Nat.le_of_ble_eq_true rfl) ?_
  refine sw_aload (i := 7) dL_trade_0 rfl ?_
  refine sw_ic 0 dL_trade_2 ?_
  refine sw_aload_n (i := 0) dL_trade_3 rfl rfl ?_
  refine sw_iload_n (i := 1) dL_trade_4 rfl rfl ?_
  refine sw_iload_n (i := 2) dL_trade_5 rfl rfl ?_
  refine sw_iload_n (i := 3) dL_trade_6 rfl rfl ?_
  refine sw_iload (i := 4) dL_trade_7 rfl ?_
  refine sw_ins (pc2 := 9) rfl rfl ?_
  refine sw_iload (i := 5) dL_trade_9 rfl ?_
  refine sw_iload (i := 6) dL_trade_11 rfl ?_
  refine px_VC mv_L_21 h rfl rfl (Nat.le_of_ble_eq_true rfl) (Nat.le_of_ble_eq_true rfl) ko_0 (Nat.le_of_ble_eq_true rfl) dL_trade_13 (i9 := 8) (pc9 := 27) (pre9 := [(0, 18, 21, 19)]) (suf9 := []) (x9 := (0, 18, 25, 25)) rfl (by intro z hz; simp [tableOf] at hz; subst hz; exact Or.inr ⟨by decide, _, cl_L_19, fun _ _ _ _ h9 => h9.2.2.2.2.2.2.2.2 ("java/lang/IllegalArgumentException", "java/lang/IndexOutOfBoundsException") (by decide +kernel)⟩) (by decide) (by decide) cl_L_25 (by decide +kernel) rfl (Nat.le_of_ble_eq_true rfl) rfl (Or.inl ⟨dL_trade_25, rfl⟩) ?_
  refine sw_lo (lo2 := [some (.ref 0), some (.int _), some (.int _), some (.int _), some (.int _), some (.int _), some (.int _), some (.ref 74), none]) rfl ?_
  refine sw_ic 2 dL_trade_27 ?_
  exact sw_ireturn rfl dL_trade_28
set_option maxRecDepth 100000 in
set_option maxHeartbeats 4000000 in
theorem WC_worth {d : Nat → Nat → Int32} {r : Nat → Nat → Option Nat} {J : Nat → Nat → Int64} {a1 a2 : Int32} {v : Int32} {d1 : Nat → Nat → Int32} {r1 : Nat → Nat → Option Nat} (h : OP kX6_worth yX6_worth 7 [.ref 0, .int a1, .int a2] d r J (some (.int v)) d1 r1 J) : WP kL_worth yL_worth 8 [.ref 0, .int a1, .int a2, .ref 74] d r J (some (.int (nI 0))) d1 r1 (d2 J 74 0 v.toInt64) := by
  refine wp_of pl_L_worth (Nat.le_of_ble_eq_true rfl) ?_
  refine sw_aload_n (i := 3) dL_worth_0 rfl rfl ?_
  refine sw_ic 0 dL_worth_1 ?_
  refine sw_aload_n (i := 0) dL_worth_2 rfl rfl ?_
  refine sw_iload_n (i := 1) dL_worth_3 rfl rfl ?_
  refine sw_iload_n (i := 2) dL_worth_4 rfl rfl ?_
  refine px_Vx mv_L_27 h rfl rfl (Nat.le_of_ble_eq_true rfl) (Nat.le_of_ble_eq_true rfl) ko_0 (Nat.le_of_ble_eq_true rfl) dL_worth_5 ?_
  refine sw_i2l dL_worth_8 ?_
  refine sw_ins (pc2 := 9) rfl rfl ?_
  refine sx_last (0) rfl rfl (by omega) dL_worth_9 ?_
  refine sw_goto (tgt := 21) dL_worth_10 rfl ?_
  refine sw_ic 0 dL_worth_21 ?_
  exact sw_ireturn rfl dL_worth_22
set_option maxRecDepth 100000 in
set_option maxHeartbeats 4000000 in
theorem WT1_worth {d : Nat → Nat → Int32} {r : Nat → Nat → Option Nat} {J : Nat → Nat → Int64} {a1 a2 : Int32} (h : OT kX6_worth yX6_worth 7 [.ref 0, .int a1, .int a2] d r J "java/lang/IndexOutOfBoundsException") : WP kL_worth yL_worth 8 [.ref 0, .int a1, .int a2, .ref 74] d r J (some (.int (nI 1))) d r J := by
  refine wp_of pl_L_worth (Nat.le_of_ble_eq_true rfl) ?_
  refine sw_aload_n (i := 3) dL_worth_0 rfl rfl ?_
  refine sw_ic 0 dL_worth_1 ?_
  refine sw_aload_n (i := 0) dL_worth_2 rfl rfl ?_
  refine sw_iload_n (i := 1) dL_worth_3 rfl rfl ?_
  refine sw_iload_n (i := 2) dL_worth_4 rfl rfl ?_
  refine px_VC mv_L_27 h rfl rfl (Nat.le_of_ble_eq_true rfl) (Nat.le_of_ble_eq_true rfl) ko_0 (Nat.le_of_ble_eq_true rfl) dL_worth_5 (i9 := 4) (pc9 := 15) (pre9 := []) (suf9 := [(0, 10, 17, 25)]) (x9 := (0, 10, 13, 19)) rfl (by intro z hz; simp [tableOf] at hz) (by decide) (by decide) cl_L_19 (by decide +kernel) rfl (Nat.le_of_ble_eq_true rfl) rfl (Or.inl ⟨dL_worth_13, rfl⟩) ?_
  refine sw_lo (lo2 := [some (.ref 0), some (.int _), some (.int _), some (.ref 74), none]) rfl ?_
  refine sw_ic 1 dL_worth_15 ?_
  refine sw_ins (pc2 := 16) rfl rfl ?_
  exact sw_ireturn rfl dL_worth_16
set_option maxRecDepth 100000 in
set_option maxHeartbeats 4000000 in
theorem WT2_worth {d : Nat → Nat → Int32} {r : Nat → Nat → Option Nat} {J : Nat → Nat → Int64} {a1 a2 : Int32} (h : OT kX6_worth yX6_worth 7 [.ref 0, .int a1, .int a2] d r J "java/lang/IllegalArgumentException") : WP kL_worth yL_worth 8 [.ref 0, .int a1, .int a2, .ref 74] d r J (some (.int (nI 2))) d r J := by
  refine wp_of pl_L_worth (Nat.le_of_ble_eq_true rfl) ?_
  refine sw_aload_n (i := 3) dL_worth_0 rfl rfl ?_
  refine sw_ic 0 dL_worth_1 ?_
  refine sw_aload_n (i := 0) dL_worth_2 rfl rfl ?_
  refine sw_iload_n (i := 1) dL_worth_3 rfl rfl ?_
  refine sw_iload_n (i := 2) dL_worth_4 rfl rfl ?_
  refine px_VC mv_L_27 h rfl rfl (Nat.le_of_ble_eq_true rfl) (Nat.le_of_ble_eq_true rfl) ko_0 (Nat.le_of_ble_eq_true rfl) dL_worth_5 (i9 := 4) (pc9 := 19) (pre9 := [(0, 10, 13, 19)]) (suf9 := []) (x9 := (0, 10, 17, 25)) rfl (by intro z hz; simp [tableOf] at hz; subst hz; exact Or.inr ⟨by decide, _, cl_L_19, fun _ _ _ _ h9 => h9.2.2.2.2.2.2.2.2 ("java/lang/IllegalArgumentException", "java/lang/IndexOutOfBoundsException") (by decide +kernel)⟩) (by decide) (by decide) cl_L_25 (by decide +kernel) rfl (Nat.le_of_ble_eq_true rfl) rfl (Or.inl ⟨dL_worth_17, rfl⟩) ?_
  refine sw_lo (lo2 := [some (.ref 0), some (.int _), some (.int _), some (.ref 74), none]) rfl ?_
  refine sw_ic 2 dL_worth_19 ?_
  refine sw_ins (pc2 := 20) rfl rfl ?_
  exact sw_ireturn rfl dL_worth_20
set_option maxRecDepth 100000 in
set_option maxHeartbeats 4000000 in
theorem WC_set {d : Nat → Nat → Int32} {r : Nat → Nat → Option Nat} {J : Nat → Nat → Int64} {a1 : Int32} {v : Int32} {d1 : Nat → Nat → Int32} {r1 : Nat → Nat → Option Nat} (h : OP kX6_set yX6_set 7 [.ref 0, .int a1] d r J (some (.int v)) d1 r1 J) : WP kL_set yL_set 8 [.ref 0, .int a1, .ref 74] d r J (some (.int (nI 0))) d1 r1 (d2 J 74 0 v.toInt64) := by
  refine wp_of pl_L_set (Nat.le_of_ble_eq_true rfl) ?_
  refine sw_aload_n (i := 2) dL_set_0 rfl rfl ?_
  refine sw_ic 0 dL_set_1 ?_
  refine sw_aload_n (i := 0) dL_set_2 rfl rfl ?_
  refine sw_iload_n (i := 1) dL_set_3 rfl rfl ?_
  refine px_Vx mv_L_30 h rfl rfl (Nat.le_of_ble_eq_true rfl) (Nat.le_of_ble_eq_true rfl) ko_0 (Nat.le_of_ble_eq_true rfl) dL_set_4 ?_
  refine sw_i2l dL_set_7 ?_
  refine sx_last (0) rfl rfl (by omega) dL_set_8 ?_
  refine sw_ins (pc2 := 9) rfl rfl ?_
  refine sw_goto (tgt := 15) dL_set_9 rfl ?_
  refine sw_ic 0 dL_set_15 ?_
  exact sw_ireturn rfl dL_set_16
set_option maxRecDepth 100000 in
set_option maxHeartbeats 4000000 in
theorem WT1_set {d : Nat → Nat → Int32} {r : Nat → Nat → Option Nat} {J : Nat → Nat → Int64} {a1 : Int32} (h : OT kX6_set yX6_set 7 [.ref 0, .int a1] d r J "java/lang/IllegalArgumentException") : WP kL_set yL_set 8 [.ref 0, .int a1, .ref 74] d r J (some (.int (nI 1))) d r J := by
  refine wp_of pl_L_set (Nat.le_of_ble_eq_true rfl) ?_
  refine sw_aload_n (i := 2) dL_set_0 rfl rfl ?_
  refine sw_ic 0 dL_set_1 ?_
  refine sw_aload_n (i := 0) dL_set_2 rfl rfl ?_
  refine sw_iload_n (i := 1) dL_set_3 rfl rfl ?_
  refine px_VC mv_L_30 h rfl rfl (Nat.le_of_ble_eq_true rfl) (Nat.le_of_ble_eq_true rfl) ko_0 (Nat.le_of_ble_eq_true rfl) dL_set_4 (i9 := 3) (pc9 := 13) (pre9 := []) (suf9 := []) (x9 := (0, 9, 12, 25)) rfl (by intro z hz; simp [tableOf] at hz) (by decide) (by decide) cl_L_25 (by decide +kernel) rfl (Nat.le_of_ble_eq_true rfl) rfl (Or.inr ⟨_, dL_set_12, rfl, rfl⟩) ?_
  refine sw_lo (lo2 := [some (.ref 0), some (.int _), some (.ref 74), none]) rfl ?_
  refine sw_ic 1 dL_set_13 ?_
  exact sw_ireturn rfl dL_set_14
set_option maxRecDepth 100000 in
set_option maxHeartbeats 4000000 in
theorem WC_promise {d : Nat → Nat → Int32} {r : Nat → Nat → Option Nat} {J : Nat → Nat → Int64} {a1 a2 a3 a4 : Int32} {v : Int32} {d1 : Nat → Nat → Int32} {r1 : Nat → Nat → Option Nat} (h : OP kX6_promise yX6_promise 7 [.ref 0, .int a1, .int a2, .int a3, .int a4] d r J (some (.int v)) d1 r1 J) : WP kL_promise yL_promise 8 [.ref 0, .int a1, .int a2, .int a3, .int a4, .ref 74] d r J (some (.int (nI 0))) d1 r1 (d2 J 74 0 v.toInt64) := by
  refine wp_of pl_L_promise (Nat.le_of_ble_eq_true rfl) ?_
  refine sw_aload (i := 5) dL_promise_0 rfl ?_
  refine sw_ic 0 dL_promise_2 ?_
  refine sw_aload_n (i := 0) dL_promise_3 rfl rfl ?_
  refine sw_iload_n (i := 1) dL_promise_4 rfl rfl ?_
  refine sw_iload_n (i := 2) dL_promise_5 rfl rfl ?_
  refine sw_iload_n (i := 3) dL_promise_6 rfl rfl ?_
  refine sw_iload (i := 4) dL_promise_7 rfl ?_
  refine sw_ins (pc2 := 9) rfl rfl ?_
  refine px_Vx mv_L_34 h rfl rfl (Nat.le_of_ble_eq_true rfl) (Nat.le_of_ble_eq_true rfl) ko_0 (Nat.le_of_ble_eq_true rfl) dL_promise_9 ?_
  refine sw_i2l dL_promise_12 ?_
  refine sx_last (0) rfl rfl (by omega) dL_promise_13 ?_
  refine sw_goto (tgt := 25) dL_promise_14 rfl ?_
  refine sw_ic 0 dL_promise_25 ?_
  exact sw_ireturn rfl dL_promise_26
set_option maxRecDepth 100000 in
set_option maxHeartbeats 4000000 in
theorem WT1_promise {d : Nat → Nat → Int32} {r : Nat → Nat → Option Nat} {J : Nat → Nat → Int64} {a1 a2 a3 a4 : Int32} (h : OT kX6_promise yX6_promise 7 [.ref 0, .int a1, .int a2, .int a3, .int a4] d r J "java/lang/IndexOutOfBoundsException") : WP kL_promise yL_promise 8 [.ref 0, .int a1, .int a2, .int a3, .int a4, .ref 74] d r J (some (.int (nI 1))) d r J := by
  refine wp_of pl_L_promise (Nat.le_of_ble_eq_true rfl) ?_
  refine sw_aload (i := 5) dL_promise_0 rfl ?_
  refine sw_ic 0 dL_promise_2 ?_
  refine sw_aload_n (i := 0) dL_promise_3 rfl rfl ?_
  refine sw_iload_n (i := 1) dL_promise_4 rfl rfl ?_
  refine sw_iload_n (i := 2) dL_promise_5 rfl rfl ?_
  refine sw_iload_n (i := 3) dL_promise_6 rfl rfl ?_
  refine sw_iload (i := 4) dL_promise_7 rfl ?_
  refine px_VC mv_L_34 h rfl rfl (Nat.le_of_ble_eq_true rfl) (Nat.le_of_ble_eq_true rfl) ko_0 (Nat.le_of_ble_eq_true rfl) dL_promise_9 (i9 := 6) (pc9 := 19) (pre9 := []) (suf9 := [(0, 14, 21, 25)]) (x9 := (0, 14, 17, 19)) rfl (by intro z hz; simp [tableOf] at hz) (by decide) (by decide) cl_L_19 (by decide +kernel) rfl (Nat.le_of_ble_eq_true rfl) rfl (Or.inl ⟨dL_promise_17, rfl⟩) ?_
  refine sw_lo (lo2 := [some (.ref 0), some (.int _), some (.int _), some (.int _), some (.int _), some (.ref 74), none]) rfl ?_
  refine sw_ic 1 dL_promise_19 ?_
  exact sw_ireturn rfl dL_promise_20
set_option maxRecDepth 100000 in
set_option maxHeartbeats 4000000 in
theorem WT2_promise {d : Nat → Nat → Int32} {r : Nat → Nat → Option Nat} {J : Nat → Nat → Int64} {a1 a2 a3 a4 : Int32} (h : OT kX6_promise yX6_promise 7 [.ref 0, .int a1, .int a2, .int a3, .int a4] d r J "java/lang/IllegalArgumentException") : WP kL_promise yL_promise 8 [.ref 0, .int a1, .int a2, .int a3, .int a4, .ref 74] d r J (some (.int (nI 2))) d r J := by
  refine wp_of pl_L_promise (Nat.le_of_ble_eq_true rfl) ?_
  refine sw_aload (i := 5) dL_promise_0 rfl ?_
  refine sw_ic 0 dL_promise_2 ?_
  refine sw_aload_n (i := 0) dL_promise_3 rfl rfl ?_
  refine sw_iload_n (i := 1) dL_promise_4 rfl rfl ?_
  refine sw_iload_n (i := 2) dL_promise_5 rfl rfl ?_
  refine sw_iload_n (i := 3) dL_promise_6 rfl rfl ?_
  refine sw_iload (i := 4) dL_promise_7 rfl ?_
  refine px_VC mv_L_34 h rfl rfl (Nat.le_of_ble_eq_true rfl) (Nat.le_of_ble_eq_true rfl) ko_0 (Nat.le_of_ble_eq_true rfl) dL_promise_9 (i9 := 6) (pc9 := 23) (pre9 := [(0, 14, 17, 19)]) (suf9 := []) (x9 := (0, 14, 21, 25)) rfl (by intro z hz; simp [tableOf] at hz; subst hz; exact Or.inr ⟨by decide, _, cl_L_19, fun _ _ _ _ h9 => h9.2.2.2.2.2.2.2.2 ("java/lang/IllegalArgumentException", "java/lang/IndexOutOfBoundsException") (by decide +kernel)⟩) (by decide) (by decide) cl_L_25 (by decide +kernel) rfl (Nat.le_of_ble_eq_true rfl) rfl (Or.inl ⟨dL_promise_21, rfl⟩) ?_
  refine sw_lo (lo2 := [some (.ref 0), some (.int _), some (.int _), some (.int _), some (.int _), some (.ref 74), none]) rfl ?_
  refine sw_ic 2 dL_promise_23 ?_
  exact sw_ireturn rfl dL_promise_24
set_option maxRecDepth 100000 in
set_option maxHeartbeats 4000000 in
theorem WC_fulfil {d : Nat → Nat → Int32} {r : Nat → Nat → Option Nat} {J : Nat → Nat → Int64} {a1 : Int32} {v : Int32} {d1 : Nat → Nat → Int32} {r1 : Nat → Nat → Option Nat} (h : OP kX6_fulfil yX6_fulfil 7 [.ref 0, .int a1] d r J (some (.int v)) d1 r1 J) : WP kL_fulfil yL_fulfil 8 [.ref 0, .int a1, .ref 74] d r J (some (.int (nI 0))) d1 r1 (d2 J 74 0 v.toInt64) := by
  refine wp_of pl_L_fulfil (Nat.le_of_ble_eq_true rfl) ?_
  refine sw_aload_n (i := 2) dL_fulfil_0 rfl rfl ?_
  refine sw_ic 0 dL_fulfil_1 ?_
  refine sw_aload_n (i := 0) dL_fulfil_2 rfl rfl ?_
  refine sw_iload_n (i := 1) dL_fulfil_3 rfl rfl ?_
  refine px_Vx mv_L_38 h rfl rfl (Nat.le_of_ble_eq_true rfl) (Nat.le_of_ble_eq_true rfl) ko_0 (Nat.le_of_ble_eq_true rfl) dL_fulfil_4 ?_
  refine sw_i2l dL_fulfil_7 ?_
  refine sx_last (0) rfl rfl (by omega) dL_fulfil_8 ?_
  refine sw_ins (pc2 := 9) rfl rfl ?_
  refine sw_goto (tgt := 15) dL_fulfil_9 rfl ?_
  refine sw_ic 0 dL_fulfil_15 ?_
  exact sw_ireturn rfl dL_fulfil_16
set_option maxRecDepth 100000 in
set_option maxHeartbeats 4000000 in
theorem WT1_fulfil {d : Nat → Nat → Int32} {r : Nat → Nat → Option Nat} {J : Nat → Nat → Int64} {a1 : Int32} (h : OT kX6_fulfil yX6_fulfil 7 [.ref 0, .int a1] d r J "java/lang/IndexOutOfBoundsException") : WP kL_fulfil yL_fulfil 8 [.ref 0, .int a1, .ref 74] d r J (some (.int (nI 1))) d r J := by
  refine wp_of pl_L_fulfil (Nat.le_of_ble_eq_true rfl) ?_
  refine sw_aload_n (i := 2) dL_fulfil_0 rfl rfl ?_
  refine sw_ic 0 dL_fulfil_1 ?_
  refine sw_aload_n (i := 0) dL_fulfil_2 rfl rfl ?_
  refine sw_iload_n (i := 1) dL_fulfil_3 rfl rfl ?_
  refine px_VC mv_L_38 h rfl rfl (Nat.le_of_ble_eq_true rfl) (Nat.le_of_ble_eq_true rfl) ko_0 (Nat.le_of_ble_eq_true rfl) dL_fulfil_4 (i9 := 3) (pc9 := 13) (pre9 := []) (suf9 := []) (x9 := (0, 9, 12, 19)) rfl (by intro z hz; simp [tableOf] at hz) (by decide) (by decide) cl_L_19 (by decide +kernel) rfl (Nat.le_of_ble_eq_true rfl) rfl (Or.inr ⟨_, dL_fulfil_12, rfl, rfl⟩) ?_
  refine sw_lo (lo2 := [some (.ref 0), some (.int _), some (.ref 74), none]) rfl ?_
  refine sw_ic 1 dL_fulfil_13 ?_
  exact sw_ireturn rfl dL_fulfil_14
set_option maxRecDepth 100000 in
set_option maxHeartbeats 4000000 in
theorem WC_append {d : Nat → Nat → Int32} {r : Nat → Nat → Option Nat} {J : Nat → Nat → Int64} {a1 : Int32} {v : Int32} {d1 : Nat → Nat → Int32} {r1 : Nat → Nat → Option Nat} (h : OP kX6_append yX6_append 7 [.ref 0, .int a1] d r J (some (.int v)) d1 r1 J) : WP kL_append yL_append 8 [.ref 0, .int a1, .ref 74] d r J (some (.int (nI 0))) d1 r1 (d2 J 74 0 v.toInt64) := by
  refine wp_of pl_L_append (Nat.le_of_ble_eq_true rfl) ?_
  refine sw_aload_n (i := 2) dL_append_0 rfl rfl ?_
  refine sw_ic 0 dL_append_1 ?_
  refine sw_aload_n (i := 0) dL_append_2 rfl rfl ?_
  refine sw_iload_n (i := 1) dL_append_3 rfl rfl ?_
  refine px_Vx mv_L_41 h rfl rfl (Nat.le_of_ble_eq_true rfl) (Nat.le_of_ble_eq_true rfl) ko_0 (Nat.le_of_ble_eq_true rfl) dL_append_4 ?_
  refine sw_i2l dL_append_7 ?_
  refine sx_last (0) rfl rfl (by omega) dL_append_8 ?_
  refine sw_ins (pc2 := 9) rfl rfl ?_
  refine sw_goto (tgt := 18) dL_append_9 rfl ?_
  refine sw_ic 0 dL_append_18 ?_
  exact sw_ireturn rfl dL_append_19
set_option maxRecDepth 100000 in
set_option maxHeartbeats 4000000 in
theorem WT1_append {d : Nat → Nat → Int32} {r : Nat → Nat → Option Nat} {J : Nat → Nat → Int64} {a1 : Int32} (h : OT kX6_append yX6_append 7 [.ref 0, .int a1] d r J "java/lang/IllegalArgumentException") : WP kL_append yL_append 8 [.ref 0, .int a1, .ref 74] d r J (some (.int (nI 1))) d r J := by
  refine wp_of pl_L_append (Nat.le_of_ble_eq_true rfl) ?_
  refine sw_aload_n (i := 2) dL_append_0 rfl rfl ?_
  refine sw_ic 0 dL_append_1 ?_
  refine sw_aload_n (i := 0) dL_append_2 rfl rfl ?_
  refine sw_iload_n (i := 1) dL_append_3 rfl rfl ?_
  refine px_VC mv_L_41 h rfl rfl (Nat.le_of_ble_eq_true rfl) (Nat.le_of_ble_eq_true rfl) ko_0 (Nat.le_of_ble_eq_true rfl) dL_append_4 (i9 := 3) (pc9 := 13) (pre9 := []) (suf9 := [(0, 9, 15, 13)]) (x9 := (0, 9, 12, 25)) rfl (by intro z hz; simp [tableOf] at hz) (by decide) (by decide) cl_L_25 (by decide +kernel) rfl (Nat.le_of_ble_eq_true rfl) rfl (Or.inr ⟨_, dL_append_12, rfl, rfl⟩) ?_
  refine sw_lo (lo2 := [some (.ref 0), some (.int _), some (.ref 74), none]) rfl ?_
  refine sw_ic 1 dL_append_13 ?_
  exact sw_ireturn rfl dL_append_14
set_option maxRecDepth 100000 in
set_option maxHeartbeats 4000000 in
theorem WT2_append {d : Nat → Nat → Int32} {r : Nat → Nat → Option Nat} {J : Nat → Nat → Int64} {a1 : Int32} (h : OT kX6_append yX6_append 7 [.ref 0, .int a1] d r J "java/lang/IllegalStateException") : WP kL_append yL_append 8 [.ref 0, .int a1, .ref 74] d r J (some (.int (nI 2))) d r J := by
  refine wp_of pl_L_append (Nat.le_of_ble_eq_true rfl) ?_
  refine sw_aload_n (i := 2) dL_append_0 rfl rfl ?_
  refine sw_ic 0 dL_append_1 ?_
  refine sw_aload_n (i := 0) dL_append_2 rfl rfl ?_
  refine sw_iload_n (i := 1) dL_append_3 rfl rfl ?_
  refine px_VC mv_L_41 h rfl rfl (Nat.le_of_ble_eq_true rfl) (Nat.le_of_ble_eq_true rfl) ko_0 (Nat.le_of_ble_eq_true rfl) dL_append_4 (i9 := 3) (pc9 := 16) (pre9 := [(0, 9, 12, 25)]) (suf9 := []) (x9 := (0, 9, 15, 13)) rfl (by intro z hz; simp [tableOf] at hz; subst hz; exact Or.inr ⟨by decide, _, cl_L_25, fun _ _ _ _ h9 => h9.2.2.2.2.2.2.2.2 ("java/lang/IllegalStateException", "java/lang/IllegalArgumentException") (by decide +kernel)⟩) (by decide) (by decide) cl_L_13 (by decide +kernel) rfl (Nat.le_of_ble_eq_true rfl) rfl (Or.inr ⟨_, dL_append_15, rfl, rfl⟩) ?_
  refine sw_lo (lo2 := [some (.ref 0), some (.int _), some (.ref 74), none]) rfl ?_
  refine sw_ic 2 dL_append_16 ?_
  exact sw_ireturn rfl dL_append_17
set_option maxRecDepth 100000 in
set_option maxHeartbeats 4000000 in
theorem WC_run {d : Nat → Nat → Int32} {r : Nat → Nat → Option Nat} {J : Nat → Nat → Int64}  {v : Int32} {d1 : Nat → Nat → Int32} {r1 : Nat → Nat → Option Nat} (h : OP kX6_run yX6_run 6 [.ref 0] d r J (some (.int v)) d1 r1 J) : WP kL_run yL_run 7 [.ref 0, .ref 74] d r J (some (.int (nI 0))) d1 r1 (d2 J 74 0 v.toInt64) := by
  refine wp_of pl_L_run (Nat.le_of_ble_eq_true rfl) ?_
  refine sw_aload_n (i := 1) dL_run_0 rfl rfl ?_
  refine sw_ic 0 dL_run_1 ?_
  refine sw_aload_n (i := 0) dL_run_2 rfl rfl ?_
  refine px_Vx mv_L_44 h rfl rfl (Nat.le_of_ble_eq_true rfl) (Nat.le_of_ble_eq_true rfl) ko_0 (Nat.le_of_ble_eq_true rfl) dL_run_3 ?_
  refine sw_i2l dL_run_6 ?_
  refine sx_last (0) rfl rfl (by omega) dL_run_7 ?_
  refine sw_goto (tgt := 14) dL_run_8 rfl ?_
  refine sw_ins (pc2 := 14) rfl rfl ?_
  refine sw_ic 0 dL_run_14 ?_
  exact sw_ireturn rfl dL_run_15
set_option maxRecDepth 100000 in
set_option maxHeartbeats 4000000 in
theorem WT1_run {d : Nat → Nat → Int32} {r : Nat → Nat → Option Nat} {J : Nat → Nat → Int64}  (h : OT kX6_run yX6_run 6 [.ref 0] d r J "java/lang/IllegalArgumentException") : WP kL_run yL_run 7 [.ref 0, .ref 74] d r J (some (.int (nI 1))) d r J := by
  refine wp_of pl_L_run (Nat.le_of_ble_eq_true rfl) ?_
  refine sw_aload_n (i := 1) dL_run_0 rfl rfl ?_
  refine sw_ic 0 dL_run_1 ?_
  refine sw_aload_n (i := 0) dL_run_2 rfl rfl ?_
  refine px_VC mv_L_44 h rfl rfl (Nat.le_of_ble_eq_true rfl) (Nat.le_of_ble_eq_true rfl) ko_0 (Nat.le_of_ble_eq_true rfl) dL_run_3 (i9 := 2) (pc9 := 12) (pre9 := []) (suf9 := []) (x9 := (0, 8, 11, 25)) rfl (by intro z hz; simp [tableOf] at hz) (by decide) (by decide) cl_L_25 (by decide +kernel) rfl (Nat.le_of_ble_eq_true rfl) rfl (Or.inr ⟨_, dL_run_11, rfl, rfl⟩) ?_
  refine sw_lo (lo2 := [some (.ref 0), some (.ref 74), none]) rfl ?_
  refine sw_ic 1 dL_run_12 ?_
  exact sw_ireturn rfl dL_run_13
set_option maxRecDepth 100000 in
set_option maxHeartbeats 4000000 in
theorem WC_keep {d : Nat → Nat → Int32} {r : Nat → Nat → Option Nat} {J : Nat → Nat → Int64} {a1 : Int32} {v : Int32} {d1 : Nat → Nat → Int32} {r1 : Nat → Nat → Option Nat} (h : OP kX6_keep yX6_keep 7 [.ref 0, .int a1] d r J (some (.int v)) d1 r1 J) : WP kL_keep yL_keep 8 [.ref 0, .int a1, .ref 74] d r J (some (.int (nI 0))) d1 r1 (d2 J 74 0 v.toInt64) := by
  refine wp_of pl_L_keep (Nat.le_of_ble_eq_true rfl) ?_
  refine sw_aload_n (i := 2) dL_keep_0 rfl rfl ?_
  refine sw_ic 0 dL_keep_1 ?_
  refine sw_aload_n (i := 0) dL_keep_2 rfl rfl ?_
  refine sw_iload_n (i := 1) dL_keep_3 rfl rfl ?_
  refine px_Vx mv_L_47 h rfl rfl (Nat.le_of_ble_eq_true rfl) (Nat.le_of_ble_eq_true rfl) ko_0 (Nat.le_of_ble_eq_true rfl) dL_keep_4 ?_
  refine sw_i2l dL_keep_7 ?_
  refine sx_last (0) rfl rfl (by omega) dL_keep_8 ?_
  refine sw_ins (pc2 := 9) rfl rfl ?_
  refine sw_goto (tgt := 15) dL_keep_9 rfl ?_
  refine sw_ic 0 dL_keep_15 ?_
  exact sw_ireturn rfl dL_keep_16
set_option maxRecDepth 100000 in
set_option maxHeartbeats 4000000 in
theorem WT1_keep {d : Nat → Nat → Int32} {r : Nat → Nat → Option Nat} {J : Nat → Nat → Int64} {a1 : Int32} (h : OT kX6_keep yX6_keep 7 [.ref 0, .int a1] d r J "java/lang/IllegalArgumentException") : WP kL_keep yL_keep 8 [.ref 0, .int a1, .ref 74] d r J (some (.int (nI 1))) d r J := by
  refine wp_of pl_L_keep (Nat.le_of_ble_eq_true rfl) ?_
  refine sw_aload_n (i := 2) dL_keep_0 rfl rfl ?_
  refine sw_ic 0 dL_keep_1 ?_
  refine sw_aload_n (i := 0) dL_keep_2 rfl rfl ?_
  refine sw_iload_n (i := 1) dL_keep_3 rfl rfl ?_
  refine px_VC mv_L_47 h rfl rfl (Nat.le_of_ble_eq_true rfl) (Nat.le_of_ble_eq_true rfl) ko_0 (Nat.le_of_ble_eq_true rfl) dL_keep_4 (i9 := 3) (pc9 := 13) (pre9 := []) (suf9 := []) (x9 := (0, 9, 12, 25)) rfl (by intro z hz; simp [tableOf] at hz) (by decide) (by decide) cl_L_25 (by decide +kernel) rfl (Nat.le_of_ble_eq_true rfl) rfl (Or.inr ⟨_, dL_keep_12, rfl, rfl⟩) ?_
  refine sw_lo (lo2 := [some (.ref 0), some (.int _), some (.ref 74), none]) rfl ?_
  refine sw_ic 1 dL_keep_13 ?_
  exact sw_ireturn rfl dL_keep_14
set_option maxRecDepth 100000 in
set_option maxHeartbeats 4000000 in
theorem WC_goBack {d : Nat → Nat → Int32} {r : Nat → Nat → Option Nat} {J : Nat → Nat → Int64} {a1 : Int32} {v : Int32} {d1 : Nat → Nat → Int32} {r1 : Nat → Nat → Option Nat} (h : OP kX6_goBack yX6_goBack 7 [.ref 0, .int a1] d r J (some (.int v)) d1 r1 J) : WP kL_goBack yL_goBack 8 [.ref 0, .int a1, .ref 74] d r J (some (.int (nI 0))) d1 r1 (d2 J 74 0 v.toInt64) := by
  refine wp_of pl_L_goBack (Nat.le_of_ble_eq_true rfl) ?_
  refine sw_aload_n (i := 2) dL_goBack_0 rfl rfl ?_
  refine sw_ic 0 dL_goBack_1 ?_
  refine sw_aload_n (i := 0) dL_goBack_2 rfl rfl ?_
  refine sw_iload_n (i := 1) dL_goBack_3 rfl rfl ?_
  refine px_Vx mv_L_50 h rfl rfl (Nat.le_of_ble_eq_true rfl) (Nat.le_of_ble_eq_true rfl) ko_0 (Nat.le_of_ble_eq_true rfl) dL_goBack_4 ?_
  refine sw_i2l dL_goBack_7 ?_
  refine sx_last (0) rfl rfl (by omega) dL_goBack_8 ?_
  refine sw_ins (pc2 := 9) rfl rfl ?_
  refine sw_goto (tgt := 18) dL_goBack_9 rfl ?_
  refine sw_ic 0 dL_goBack_18 ?_
  exact sw_ireturn rfl dL_goBack_19
set_option maxRecDepth 100000 in
set_option maxHeartbeats 4000000 in
theorem WT1_goBack {d : Nat → Nat → Int32} {r : Nat → Nat → Option Nat} {J : Nat → Nat → Int64} {a1 : Int32} (h : OT kX6_goBack yX6_goBack 7 [.ref 0, .int a1] d r J "java/lang/IllegalArgumentException") : WP kL_goBack yL_goBack 8 [.ref 0, .int a1, .ref 74] d r J (some (.int (nI 1))) d r J := by
  refine wp_of pl_L_goBack (Nat.le_of_ble_eq_true rfl) ?_
  refine sw_aload_n (i := 2) dL_goBack_0 rfl rfl ?_
  refine sw_ic 0 dL_goBack_1 ?_
  refine sw_aload_n (i := 0) dL_goBack_2 rfl rfl ?_
  refine sw_iload_n (i := 1) dL_goBack_3 rfl rfl ?_
  refine px_VC mv_L_50 h rfl rfl (Nat.le_of_ble_eq_true rfl) (Nat.le_of_ble_eq_true rfl) ko_0 (Nat.le_of_ble_eq_true rfl) dL_goBack_4 (i9 := 3) (pc9 := 13) (pre9 := []) (suf9 := [(0, 9, 15, 13)]) (x9 := (0, 9, 12, 25)) rfl (by intro z hz; simp [tableOf] at hz) (by decide) (by decide) cl_L_25 (by decide +kernel) rfl (Nat.le_of_ble_eq_true rfl) rfl (Or.inr ⟨_, dL_goBack_12, rfl, rfl⟩) ?_
  refine sw_lo (lo2 := [some (.ref 0), some (.int _), some (.ref 74), none]) rfl ?_
  refine sw_ic 1 dL_goBack_13 ?_
  exact sw_ireturn rfl dL_goBack_14
set_option maxRecDepth 100000 in
set_option maxHeartbeats 4000000 in
theorem WT2_goBack {d : Nat → Nat → Int32} {r : Nat → Nat → Option Nat} {J : Nat → Nat → Int64} {a1 : Int32} (h : OT kX6_goBack yX6_goBack 7 [.ref 0, .int a1] d r J "java/lang/IllegalStateException") : WP kL_goBack yL_goBack 8 [.ref 0, .int a1, .ref 74] d r J (some (.int (nI 2))) d r J := by
  refine wp_of pl_L_goBack (Nat.le_of_ble_eq_true rfl) ?_
  refine sw_aload_n (i := 2) dL_goBack_0 rfl rfl ?_
  refine sw_ic 0 dL_goBack_1 ?_
  refine sw_aload_n (i := 0) dL_goBack_2 rfl rfl ?_
  refine sw_iload_n (i := 1) dL_goBack_3 rfl rfl ?_
  refine px_VC mv_L_50 h rfl rfl (Nat.le_of_ble_eq_true rfl) (Nat.le_of_ble_eq_true rfl) ko_0 (Nat.le_of_ble_eq_true rfl) dL_goBack_4 (i9 := 3) (pc9 := 16) (pre9 := [(0, 9, 12, 25)]) (suf9 := []) (x9 := (0, 9, 15, 13)) rfl (by intro z hz; simp [tableOf] at hz; subst hz; exact Or.inr ⟨by decide, _, cl_L_25, fun _ _ _ _ h9 => h9.2.2.2.2.2.2.2.2 ("java/lang/IllegalStateException", "java/lang/IllegalArgumentException") (by decide +kernel)⟩) (by decide) (by decide) cl_L_13 (by decide +kernel) rfl (Nat.le_of_ble_eq_true rfl) rfl (Or.inr ⟨_, dL_goBack_15, rfl, rfl⟩) ?_
  refine sw_lo (lo2 := [some (.ref 0), some (.int _), some (.ref 74), none]) rfl ?_
  refine sw_ic 2 dL_goBack_16 ?_
  exact sw_ireturn rfl dL_goBack_17
set_option maxRecDepth 100000 in
set_option maxHeartbeats 4000000 in
theorem WC_undo {d : Nat → Nat → Int32} {r : Nat → Nat → Option Nat} {J : Nat → Nat → Int64}  {v : Int32} {d1 : Nat → Nat → Int32} {r1 : Nat → Nat → Option Nat} (h : OP kX6_undo yX6_undo 6 [.ref 0] d r J (some (.int v)) d1 r1 J) : WP kL_undo yL_undo 7 [.ref 0, .ref 74] d r J (some (.int (nI 0))) d1 r1 (d2 J 74 0 v.toInt64) := by
  refine wp_of pl_L_undo (Nat.le_of_ble_eq_true rfl) ?_
  refine sw_aload_n (i := 1) dL_undo_0 rfl rfl ?_
  refine sw_ic 0 dL_undo_1 ?_
  refine sw_aload_n (i := 0) dL_undo_2 rfl rfl ?_
  refine px_Vx mv_L_53 h rfl rfl (Nat.le_of_ble_eq_true rfl) (Nat.le_of_ble_eq_true rfl) ko_0 (Nat.le_of_ble_eq_true rfl) dL_undo_3 ?_
  refine sw_i2l dL_undo_6 ?_
  refine sx_last (0) rfl rfl (by omega) dL_undo_7 ?_
  refine sw_goto (tgt := 14) dL_undo_8 rfl ?_
  refine sw_ins (pc2 := 14) rfl rfl ?_
  refine sw_ic 0 dL_undo_14 ?_
  exact sw_ireturn rfl dL_undo_15
set_option maxRecDepth 100000 in
set_option maxHeartbeats 4000000 in
theorem WT1_undo {d : Nat → Nat → Int32} {r : Nat → Nat → Option Nat} {J : Nat → Nat → Int64}  (h : OT kX6_undo yX6_undo 6 [.ref 0] d r J "java/lang/IllegalStateException") : WP kL_undo yL_undo 7 [.ref 0, .ref 74] d r J (some (.int (nI 1))) d r J := by
  refine wp_of pl_L_undo (Nat.le_of_ble_eq_true rfl) ?_
  refine sw_aload_n (i := 1) dL_undo_0 rfl rfl ?_
  refine sw_ic 0 dL_undo_1 ?_
  refine sw_aload_n (i := 0) dL_undo_2 rfl rfl ?_
  refine px_VC mv_L_53 h rfl rfl (Nat.le_of_ble_eq_true rfl) (Nat.le_of_ble_eq_true rfl) ko_0 (Nat.le_of_ble_eq_true rfl) dL_undo_3 (i9 := 2) (pc9 := 12) (pre9 := []) (suf9 := []) (x9 := (0, 8, 11, 13)) rfl (by intro z hz; simp [tableOf] at hz) (by decide) (by decide) cl_L_13 (by decide +kernel) rfl (Nat.le_of_ble_eq_true rfl) rfl (Or.inr ⟨_, dL_undo_11, rfl, rfl⟩) ?_
  refine sw_lo (lo2 := [some (.ref 0), some (.ref 74), none]) rfl ?_
  refine sw_ic 1 dL_undo_12 ?_
  exact sw_ireturn rfl dL_undo_13
set_option maxRecDepth 100000 in
set_option maxHeartbeats 4000000 in
theorem WC_caps {d : Nat → Nat → Int32} {r : Nat → Nat → Option Nat} {J : Nat → Nat → Int64} {a1 a2 : Int32} {v : Int32} {d1 : Nat → Nat → Int32} {r1 : Nat → Nat → Option Nat} (h : OP kX6_caps yX6_caps 7 [.ref 0, .int a1, .int a2] d r J (some (.int v)) d1 r1 J) : WP kL_caps yL_caps 8 [.ref 0, .int a1, .int a2, .ref 74] d r J (some (.int (nI 0))) d1 r1 (d2 J 74 0 v.toInt64) := by
  refine wp_of pl_L_caps (Nat.le_of_ble_eq_true rfl) ?_
  refine sw_aload_n (i := 3) dL_caps_0 rfl rfl ?_
  refine sw_ic 0 dL_caps_1 ?_
  refine sw_aload_n (i := 0) dL_caps_2 rfl rfl ?_
  refine sw_iload_n (i := 1) dL_caps_3 rfl rfl ?_
  refine sw_iload_n (i := 2) dL_caps_4 rfl rfl ?_
  refine px_Vx mv_L_56 h rfl rfl (Nat.le_of_ble_eq_true rfl) (Nat.le_of_ble_eq_true rfl) ko_0 (Nat.le_of_ble_eq_true rfl) dL_caps_5 ?_
  refine sw_i2l dL_caps_8 ?_
  refine sw_ins (pc2 := 9) rfl rfl ?_
  refine sx_last (0) rfl rfl (by omega) dL_caps_9 ?_
  refine sw_goto (tgt := 17) dL_caps_10 rfl ?_
  refine sw_ic 0 dL_caps_17 ?_
  exact sw_ireturn rfl dL_caps_18
set_option maxRecDepth 100000 in
set_option maxHeartbeats 4000000 in
theorem WT1_caps {d : Nat → Nat → Int32} {r : Nat → Nat → Option Nat} {J : Nat → Nat → Int64} {a1 a2 : Int32} (h : OT kX6_caps yX6_caps 7 [.ref 0, .int a1, .int a2] d r J "java/lang/IndexOutOfBoundsException") : WP kL_caps yL_caps 8 [.ref 0, .int a1, .int a2, .ref 74] d r J (some (.int (nI 1))) d r J := by
  refine wp_of pl_L_caps (Nat.le_of_ble_eq_true rfl) ?_
  refine sw_aload_n (i := 3) dL_caps_0 rfl rfl ?_
  refine sw_ic 0 dL_caps_1 ?_
  refine sw_aload_n (i := 0) dL_caps_2 rfl rfl ?_
  refine sw_iload_n (i := 1) dL_caps_3 rfl rfl ?_
  refine sw_iload_n (i := 2) dL_caps_4 rfl rfl ?_
  refine px_VC mv_L_56 h rfl rfl (Nat.le_of_ble_eq_true rfl) (Nat.le_of_ble_eq_true rfl) ko_0 (Nat.le_of_ble_eq_true rfl) dL_caps_5 (i9 := 4) (pc9 := 15) (pre9 := []) (suf9 := []) (x9 := (0, 10, 13, 19)) rfl (by intro z hz; simp [tableOf] at hz) (by decide) (by decide) cl_L_19 (by decide +kernel) rfl (Nat.le_of_ble_eq_true rfl) rfl (Or.inl ⟨dL_caps_13, rfl⟩) ?_
  refine sw_lo (lo2 := [some (.ref 0), some (.int _), some (.int _), some (.ref 74), none]) rfl ?_
  refine sw_ic 1 dL_caps_15 ?_
  refine sw_ins (pc2 := 16) rfl rfl ?_
  exact sw_ireturn rfl dL_caps_16
set_option maxRecDepth 100000 in
set_option maxHeartbeats 4000000 in
theorem WC_islanderOf {d : Nat → Nat → Int32} {r : Nat → Nat → Option Nat} {J : Nat → Nat → Int64} {a1 a2 : Int32} {v : Int32} {d1 : Nat → Nat → Int32} {r1 : Nat → Nat → Option Nat} (h : OP kX6_islanderOf yX6_islanderOf 7 [.ref 0, .int a1, .int a2] d r J (some (.int v)) d1 r1 J) : WP kL_islanderOf yL_islanderOf 8 [.ref 0, .int a1, .int a2, .ref 74] d r J (some (.int (nI 0))) d1 r1 (d2 J 74 0 v.toInt64) := by
  refine wp_of pl_L_islanderOf (Nat.le_of_ble_eq_true rfl) ?_
  refine sw_aload_n (i := 3) dL_islanderOf_0 rfl rfl ?_
  refine sw_ic 0 dL_islanderOf_1 ?_
  refine sw_aload_n (i := 0) dL_islanderOf_2 rfl rfl ?_
  refine sw_iload_n (i := 1) dL_islanderOf_3 rfl rfl ?_
  refine sw_iload_n (i := 2) dL_islanderOf_4 rfl rfl ?_
  refine px_Vx mv_L_59 h rfl rfl (Nat.le_of_ble_eq_true rfl) (Nat.le_of_ble_eq_true rfl) ko_0 (Nat.le_of_ble_eq_true rfl) dL_islanderOf_5 ?_
  refine sw_i2l dL_islanderOf_8 ?_
  refine sw_ins (pc2 := 9) rfl rfl ?_
  refine sx_last (0) rfl rfl (by omega) dL_islanderOf_9 ?_
  refine sw_goto (tgt := 21) dL_islanderOf_10 rfl ?_
  refine sw_ic 0 dL_islanderOf_21 ?_
  exact sw_ireturn rfl dL_islanderOf_22
set_option maxRecDepth 100000 in
set_option maxHeartbeats 4000000 in
theorem WT1_islanderOf {d : Nat → Nat → Int32} {r : Nat → Nat → Option Nat} {J : Nat → Nat → Int64} {a1 a2 : Int32} (h : OT kX6_islanderOf yX6_islanderOf 7 [.ref 0, .int a1, .int a2] d r J "java/lang/IndexOutOfBoundsException") : WP kL_islanderOf yL_islanderOf 8 [.ref 0, .int a1, .int a2, .ref 74] d r J (some (.int (nI 1))) d r J := by
  refine wp_of pl_L_islanderOf (Nat.le_of_ble_eq_true rfl) ?_
  refine sw_aload_n (i := 3) dL_islanderOf_0 rfl rfl ?_
  refine sw_ic 0 dL_islanderOf_1 ?_
  refine sw_aload_n (i := 0) dL_islanderOf_2 rfl rfl ?_
  refine sw_iload_n (i := 1) dL_islanderOf_3 rfl rfl ?_
  refine sw_iload_n (i := 2) dL_islanderOf_4 rfl rfl ?_
  refine px_VC mv_L_59 h rfl rfl (Nat.le_of_ble_eq_true rfl) (Nat.le_of_ble_eq_true rfl) ko_0 (Nat.le_of_ble_eq_true rfl) dL_islanderOf_5 (i9 := 4) (pc9 := 15) (pre9 := []) (suf9 := [(0, 10, 17, 25)]) (x9 := (0, 10, 13, 19)) rfl (by intro z hz; simp [tableOf] at hz) (by decide) (by decide) cl_L_19 (by decide +kernel) rfl (Nat.le_of_ble_eq_true rfl) rfl (Or.inl ⟨dL_islanderOf_13, rfl⟩) ?_
  refine sw_lo (lo2 := [some (.ref 0), some (.int _), some (.int _), some (.ref 74), none]) rfl ?_
  refine sw_ic 1 dL_islanderOf_15 ?_
  refine sw_ins (pc2 := 16) rfl rfl ?_
  exact sw_ireturn rfl dL_islanderOf_16
set_option maxRecDepth 100000 in
set_option maxHeartbeats 4000000 in
theorem WT2_islanderOf {d : Nat → Nat → Int32} {r : Nat → Nat → Option Nat} {J : Nat → Nat → Int64} {a1 a2 : Int32} (h : OT kX6_islanderOf yX6_islanderOf 7 [.ref 0, .int a1, .int a2] d r J "java/lang/IllegalArgumentException") : WP kL_islanderOf yL_islanderOf 8 [.ref 0, .int a1, .int a2, .ref 74] d r J (some (.int (nI 2))) d r J := by
  refine wp_of pl_L_islanderOf (Nat.le_of_ble_eq_true rfl) ?_
  refine sw_aload_n (i := 3) dL_islanderOf_0 rfl rfl ?_
  refine sw_ic 0 dL_islanderOf_1 ?_
  refine sw_aload_n (i := 0) dL_islanderOf_2 rfl rfl ?_
  refine sw_iload_n (i := 1) dL_islanderOf_3 rfl rfl ?_
  refine sw_iload_n (i := 2) dL_islanderOf_4 rfl rfl ?_
  refine px_VC mv_L_59 h rfl rfl (Nat.le_of_ble_eq_true rfl) (Nat.le_of_ble_eq_true rfl) ko_0 (Nat.le_of_ble_eq_true rfl) dL_islanderOf_5 (i9 := 4) (pc9 := 19) (pre9 := [(0, 10, 13, 19)]) (suf9 := []) (x9 := (0, 10, 17, 25)) rfl (by intro z hz; simp [tableOf] at hz; subst hz; exact Or.inr ⟨by decide, _, cl_L_19, fun _ _ _ _ h9 => h9.2.2.2.2.2.2.2.2 ("java/lang/IllegalArgumentException", "java/lang/IndexOutOfBoundsException") (by decide +kernel)⟩) (by decide) (by decide) cl_L_25 (by decide +kernel) rfl (Nat.le_of_ble_eq_true rfl) rfl (Or.inl ⟨dL_islanderOf_17, rfl⟩) ?_
  refine sw_lo (lo2 := [some (.ref 0), some (.int _), some (.int _), some (.ref 74), none]) rfl ?_
  refine sw_ic 2 dL_islanderOf_19 ?_
  refine sw_ins (pc2 := 20) rfl rfl ?_
  exact sw_ireturn rfl dL_islanderOf_20
set_option maxRecDepth 100000 in
set_option maxHeartbeats 4000000 in
theorem WC_promiseOf {d : Nat → Nat → Int32} {r : Nat → Nat → Option Nat} {J : Nat → Nat → Int64} {a1 a2 : Int32} {v : Int32} {d1 : Nat → Nat → Int32} {r1 : Nat → Nat → Option Nat} (h : OP kX6_promiseOf yX6_promiseOf 7 [.ref 0, .int a1, .int a2] d r J (some (.int v)) d1 r1 J) : WP kL_promiseOf yL_promiseOf 8 [.ref 0, .int a1, .int a2, .ref 74] d r J (some (.int (nI 0))) d1 r1 (d2 J 74 0 v.toInt64) := by
  refine wp_of pl_L_promiseOf (Nat.le_of_ble_eq_true rfl) ?_
  refine sw_aload_n (i := 3) dL_promiseOf_0 rfl rfl ?_
  refine sw_ic 0 dL_promiseOf_1 ?_
  refine sw_aload_n (i := 0) dL_promiseOf_2 rfl rfl ?_
  refine sw_iload_n (i := 1) dL_promiseOf_3 rfl rfl ?_
  refine sw_iload_n (i := 2) dL_promiseOf_4 rfl rfl ?_
  refine px_Vx mv_L_62 h rfl rfl (Nat.le_of_ble_eq_true rfl) (Nat.le_of_ble_eq_true rfl) ko_0 (Nat.le_of_ble_eq_true rfl) dL_promiseOf_5 ?_
  refine sw_i2l dL_promiseOf_8 ?_
  refine sw_ins (pc2 := 9) rfl rfl ?_
  refine sx_last (0) rfl rfl (by omega) dL_promiseOf_9 ?_
  refine sw_goto (tgt := 21) dL_promiseOf_10 rfl ?_
  refine sw_ic 0 dL_promiseOf_21 ?_
  exact sw_ireturn rfl dL_promiseOf_22
set_option maxRecDepth 100000 in
set_option maxHeartbeats 4000000 in
theorem WT1_promiseOf {d : Nat → Nat → Int32} {r : Nat → Nat → Option Nat} {J : Nat → Nat → Int64} {a1 a2 : Int32} (h : OT kX6_promiseOf yX6_promiseOf 7 [.ref 0, .int a1, .int a2] d r J "java/lang/IndexOutOfBoundsException") : WP kL_promiseOf yL_promiseOf 8 [.ref 0, .int a1, .int a2, .ref 74] d r J (some (.int (nI 1))) d r J := by
  refine wp_of pl_L_promiseOf (Nat.le_of_ble_eq_true rfl) ?_
  refine sw_aload_n (i := 3) dL_promiseOf_0 rfl rfl ?_
  refine sw_ic 0 dL_promiseOf_1 ?_
  refine sw_aload_n (i := 0) dL_promiseOf_2 rfl rfl ?_
  refine sw_iload_n (i := 1) dL_promiseOf_3 rfl rfl ?_
  refine sw_iload_n (i := 2) dL_promiseOf_4 rfl rfl ?_
  refine px_VC mv_L_62 h rfl rfl (Nat.le_of_ble_eq_true rfl) (Nat.le_of_ble_eq_true rfl) ko_0 (Nat.le_of_ble_eq_true rfl) dL_promiseOf_5 (i9 := 4) (pc9 := 15) (pre9 := []) (suf9 := [(0, 10, 17, 25)]) (x9 := (0, 10, 13, 19)) rfl (by intro z hz; simp [tableOf] at hz) (by decide) (by decide) cl_L_19 (by decide +kernel) rfl (Nat.le_of_ble_eq_true rfl) rfl (Or.inl ⟨dL_promiseOf_13, rfl⟩) ?_
  refine sw_lo (lo2 := [some (.ref 0), some (.int _), some (.int _), some (.ref 74), none]) rfl ?_
  refine sw_ic 1 dL_promiseOf_15 ?_
  refine sw_ins (pc2 := 16) rfl rfl ?_
  exact sw_ireturn rfl dL_promiseOf_16
set_option maxRecDepth 100000 in
set_option maxHeartbeats 4000000 in
theorem WT2_promiseOf {d : Nat → Nat → Int32} {r : Nat → Nat → Option Nat} {J : Nat → Nat → Int64} {a1 a2 : Int32} (h : OT kX6_promiseOf yX6_promiseOf 7 [.ref 0, .int a1, .int a2] d r J "java/lang/IllegalArgumentException") : WP kL_promiseOf yL_promiseOf 8 [.ref 0, .int a1, .int a2, .ref 74] d r J (some (.int (nI 2))) d r J := by
  refine wp_of pl_L_promiseOf (Nat.le_of_ble_eq_true rfl) ?_
  refine sw_aload_n (i := 3) dL_promiseOf_0 rfl rfl ?_
  refine sw_ic 0 dL_promiseOf_1 ?_
  refine sw_aload_n (i := 0) dL_promiseOf_2 rfl rfl ?_
  refine sw_iload_n (i := 1) dL_promiseOf_3 rfl rfl ?_
  refine sw_iload_n (i := 2) dL_promiseOf_4 rfl rfl ?_
  refine px_VC mv_L_62 h rfl rfl (Nat.le_of_ble_eq_true rfl) (Nat.le_of_ble_eq_true rfl) ko_0 (Nat.le_of_ble_eq_true rfl) dL_promiseOf_5 (i9 := 4) (pc9 := 19) (pre9 := [(0, 10, 13, 19)]) (suf9 := []) (x9 := (0, 10, 17, 25)) rfl (by intro z hz; simp [tableOf] at hz; subst hz; exact Or.inr ⟨by decide, _, cl_L_19, fun _ _ _ _ h9 => h9.2.2.2.2.2.2.2.2 ("java/lang/IllegalArgumentException", "java/lang/IndexOutOfBoundsException") (by decide +kernel)⟩) (by decide) (by decide) cl_L_25 (by decide +kernel) rfl (Nat.le_of_ble_eq_true rfl) rfl (Or.inl ⟨dL_promiseOf_17, rfl⟩) ?_
  refine sw_lo (lo2 := [some (.ref 0), some (.int _), some (.int _), some (.ref 74), none]) rfl ?_
  refine sw_ic 2 dL_promiseOf_19 ?_
  refine sw_ins (pc2 := 20) rfl rfl ?_
  exact sw_ireturn rfl dL_promiseOf_20
set_option maxRecDepth 100000 in
set_option maxHeartbeats 4000000 in
theorem WC_owed {d : Nat → Nat → Int32} {r : Nat → Nat → Option Nat} {J : Nat → Nat → Int64} {a1 a2 : Int32} {v : Int32} {d1 : Nat → Nat → Int32} {r1 : Nat → Nat → Option Nat} (h : OP kX6_owed yX6_owed 7 [.ref 0, .int a1, .int a2] d r J (some (.int v)) d1 r1 J) : WP kL_owed yL_owed 8 [.ref 0, .int a1, .int a2, .ref 74] d r J (some (.int (nI 0))) d1 r1 (d2 J 74 0 v.toInt64) := by
  refine wp_of pl_L_owed (Nat.le_of_ble_eq_true rfl) ?_
  refine sw_aload_n (i := 3) dL_owed_0 rfl rfl ?_
  refine sw_ic 0 dL_owed_1 ?_
  refine sw_aload_n (i := 0) dL_owed_2 rfl rfl ?_
  refine sw_iload_n (i := 1) dL_owed_3 rfl rfl ?_
  refine sw_iload_n (i := 2) dL_owed_4 rfl rfl ?_
  refine px_Vx mv_L_65 h rfl rfl (Nat.le_of_ble_eq_true rfl) (Nat.le_of_ble_eq_true rfl) ko_0 (Nat.le_of_ble_eq_true rfl) dL_owed_5 ?_
  refine sw_i2l dL_owed_8 ?_
  refine sw_ins (pc2 := 9) rfl rfl ?_
  refine sx_last (0) rfl rfl (by omega) dL_owed_9 ?_
  refine sw_goto (tgt := 17) dL_owed_10 rfl ?_
  refine sw_ic 0 dL_owed_17 ?_
  exact sw_ireturn rfl dL_owed_18
set_option maxRecDepth 100000 in
set_option maxHeartbeats 4000000 in
theorem WT1_owed {d : Nat → Nat → Int32} {r : Nat → Nat → Option Nat} {J : Nat → Nat → Int64} {a1 a2 : Int32} (h : OT kX6_owed yX6_owed 7 [.ref 0, .int a1, .int a2] d r J "java/lang/IndexOutOfBoundsException") : WP kL_owed yL_owed 8 [.ref 0, .int a1, .int a2, .ref 74] d r J (some (.int (nI 1))) d r J := by
  refine wp_of pl_L_owed (Nat.le_of_ble_eq_true rfl) ?_
  refine sw_aload_n (i := 3) dL_owed_0 rfl rfl ?_
  refine sw_ic 0 dL_owed_1 ?_
  refine sw_aload_n (i := 0) dL_owed_2 rfl rfl ?_
  refine sw_iload_n (i := 1) dL_owed_3 rfl rfl ?_
  refine sw_iload_n (i := 2) dL_owed_4 rfl rfl ?_
  refine px_VC mv_L_65 h rfl rfl (Nat.le_of_ble_eq_true rfl) (Nat.le_of_ble_eq_true rfl) ko_0 (Nat.le_of_ble_eq_true rfl) dL_owed_5 (i9 := 4) (pc9 := 15) (pre9 := []) (suf9 := []) (x9 := (0, 10, 13, 19)) rfl (by intro z hz; simp [tableOf] at hz) (by decide) (by decide) cl_L_19 (by decide +kernel) rfl (Nat.le_of_ble_eq_true rfl) rfl (Or.inl ⟨dL_owed_13, rfl⟩) ?_
  refine sw_lo (lo2 := [some (.ref 0), some (.int _), some (.int _), some (.ref 74), none]) rfl ?_
  refine sw_ic 1 dL_owed_15 ?_
  refine sw_ins (pc2 := 16) rfl rfl ?_
  exact sw_ireturn rfl dL_owed_16
set_option maxRecDepth 100000 in
set_option maxHeartbeats 4000000 in
theorem WC_count {d : Nat → Nat → Int32} {r : Nat → Nat → Option Nat} {J : Nat → Nat → Int64} {a1 : Int32} {v : Int32} {d1 : Nat → Nat → Int32} {r1 : Nat → Nat → Option Nat} (h : OP kX6_count yX6_count 6 [.ref 0, .int a1] d r J (some (.int v)) d1 r1 J) : WP kL_count yL_count 7 [.ref 0, .int a1, .ref 74] d r J (some (.int (nI 0))) d1 r1 (d2 J 74 0 v.toInt64) := by
  refine wp_of pl_L_count (Nat.le_of_ble_eq_true rfl) ?_
  refine sw_aload_n (i := 2) dL_count_0 rfl rfl ?_
  refine sw_ic 0 dL_count_1 ?_
  refine sw_aload_n (i := 0) dL_count_2 rfl rfl ?_
  refine sw_iload_n (i := 1) dL_count_3 rfl rfl ?_
  refine px_Vx mv_L_68 h rfl rfl (Nat.le_of_ble_eq_true rfl) (Nat.le_of_ble_eq_true rfl) ko_0 (Nat.le_of_ble_eq_true rfl) dL_count_4 ?_
  refine sw_i2l dL_count_7 ?_
  refine sx_last (0) rfl rfl (by omega) dL_count_8 ?_
  refine sw_ins (pc2 := 9) rfl rfl ?_
  refine sw_goto (tgt := 15) dL_count_9 rfl ?_
  refine sw_ic 0 dL_count_15 ?_
  exact sw_ireturn rfl dL_count_16
set_option maxRecDepth 100000 in
set_option maxHeartbeats 4000000 in
theorem WT1_count {d : Nat → Nat → Int32} {r : Nat → Nat → Option Nat} {J : Nat → Nat → Int64} {a1 : Int32} (h : OT kX6_count yX6_count 6 [.ref 0, .int a1] d r J "java/lang/IllegalArgumentException") : WP kL_count yL_count 7 [.ref 0, .int a1, .ref 74] d r J (some (.int (nI 1))) d r J := by
  refine wp_of pl_L_count (Nat.le_of_ble_eq_true rfl) ?_
  refine sw_aload_n (i := 2) dL_count_0 rfl rfl ?_
  refine sw_ic 0 dL_count_1 ?_
  refine sw_aload_n (i := 0) dL_count_2 rfl rfl ?_
  refine sw_iload_n (i := 1) dL_count_3 rfl rfl ?_
  refine px_VC mv_L_68 h rfl rfl (Nat.le_of_ble_eq_true rfl) (Nat.le_of_ble_eq_true rfl) ko_0 (Nat.le_of_ble_eq_true rfl) dL_count_4 (i9 := 3) (pc9 := 13) (pre9 := []) (suf9 := []) (x9 := (0, 9, 12, 25)) rfl (by intro z hz; simp [tableOf] at hz) (by decide) (by decide) cl_L_25 (by decide +kernel) rfl (Nat.le_of_ble_eq_true rfl) rfl (Or.inr ⟨_, dL_count_12, rfl, rfl⟩) ?_
  refine sw_lo (lo2 := [some (.ref 0), some (.int _), some (.ref 74), none]) rfl ?_
  refine sw_ic 1 dL_count_13 ?_
  exact sw_ireturn rfl dL_count_14
set_option maxRecDepth 100000 in
set_option maxHeartbeats 4000000 in
theorem WC_where {d : Nat → Nat → Int32} {r : Nat → Nat → Option Nat} {J : Nat → Nat → Int64} {a1 a2 a3 : Int32} {v : Int32} {d1 : Nat → Nat → Int32} {r1 : Nat → Nat → Option Nat} (h : OP kX6_where yX6_where 7 [.ref 0, .int a1, .int a2, .int a3] d r J (some (.int v)) d1 r1 J) : WP kL_where yL_where 8 [.ref 0, .int a1, .int a2, .int a3, .ref 74] d r J (some (.int (nI 0))) d1 r1 (d2 J 74 0 v.toInt64) := by
  refine wp_of pl_L_where (Nat.le_of_ble_eq_true rfl) ?_
  refine sw_aload (i := 4) dL_where_0 rfl ?_
  refine sw_ic 0 dL_where_2 ?_
  refine sw_aload_n (i := 0) dL_where_3 rfl rfl ?_
  refine sw_iload_n (i := 1) dL_where_4 rfl rfl ?_
  refine sw_iload_n (i := 2) dL_where_5 rfl rfl ?_
  refine sw_iload_n (i := 3) dL_where_6 rfl rfl ?_
  refine px_Vx mv_L_71 h rfl rfl (Nat.le_of_ble_eq_true rfl) (Nat.le_of_ble_eq_true rfl) ko_0 (Nat.le_of_ble_eq_true rfl) dL_where_7 ?_
  refine sw_ins (pc2 := 10) rfl rfl ?_
  refine sw_i2l dL_where_10 ?_
  refine sx_last (0) rfl rfl (by omega) dL_where_11 ?_
  refine sw_goto (tgt := 23) dL_where_12 rfl ?_
  refine sw_ic 0 dL_where_23 ?_
  exact sw_ireturn rfl dL_where_24
set_option maxRecDepth 100000 in
set_option maxHeartbeats 4000000 in
theorem WT1_where {d : Nat → Nat → Int32} {r : Nat → Nat → Option Nat} {J : Nat → Nat → Int64} {a1 a2 a3 : Int32} (h : OT kX6_where yX6_where 7 [.ref 0, .int a1, .int a2, .int a3] d r J "java/lang/IndexOutOfBoundsException") : WP kL_where yL_where 8 [.ref 0, .int a1, .int a2, .int a3, .ref 74] d r J (some (.int (nI 1))) d r J := by
  refine wp_of pl_L_where (Nat.le_of_ble_eq_true rfl) ?_
  refine sw_aload (i := 4) dL_where_0 rfl ?_
  refine sw_ic 0 dL_where_2 ?_
  refine sw_aload_n (i := 0) dL_where_3 rfl rfl ?_
  refine sw_iload_n (i := 1) dL_where_4 rfl rfl ?_
  refine sw_iload_n (i := 2) dL_where_5 rfl rfl ?_
  refine sw_iload_n (i := 3) dL_where_6 rfl rfl ?_
  refine px_VC mv_L_71 h rfl rfl (Nat.le_of_ble_eq_true rfl) (Nat.le_of_ble_eq_true rfl) ko_0 (Nat.le_of_ble_eq_true rfl) dL_where_7 (i9 := 5) (pc9 := 17) (pre9 := []) (suf9 := [(0, 12, 19, 25)]) (x9 := (0, 12, 15, 19)) rfl (by intro z hz; simp [tableOf] at hz) (by decide) (by decide) cl_L_19 (by decide +kernel) rfl (Nat.le_of_ble_eq_true rfl) rfl (Or.inl ⟨dL_where_15, rfl⟩) ?_
  refine sw_lo (lo2 := [some (.ref 0), some (.int _), some (.int _), some (.int _), some (.ref 74), none]) rfl ?_
  refine sw_ins (pc2 := 17) rfl rfl ?_
  refine sw_ic 1 dL_where_17 ?_
  exact sw_ireturn rfl dL_where_18
set_option maxRecDepth 100000 in
set_option maxHeartbeats 4000000 in
theorem WT2_where {d : Nat → Nat → Int32} {r : Nat → Nat → Option Nat} {J : Nat → Nat → Int64} {a1 a2 a3 : Int32} (h : OT kX6_where yX6_where 7 [.ref 0, .int a1, .int a2, .int a3] d r J "java/lang/IllegalArgumentException") : WP kL_where yL_where 8 [.ref 0, .int a1, .int a2, .int a3, .ref 74] d r J (some (.int (nI 2))) d r J := by
  refine wp_of pl_L_where (Nat.le_of_ble_eq_true rfl) ?_
  refine sw_aload (i := 4) dL_where_0 rfl ?_
  refine sw_ic 0 dL_where_2 ?_
  refine sw_aload_n (i := 0) dL_where_3 rfl rfl ?_
  refine sw_iload_n (i := 1) dL_where_4 rfl rfl ?_
  refine sw_iload_n (i := 2) dL_where_5 rfl rfl ?_
  refine sw_iload_n (i := 3) dL_where_6 rfl rfl ?_
  refine px_VC mv_L_71 h rfl rfl (Nat.le_of_ble_eq_true rfl) (Nat.le_of_ble_eq_true rfl) ko_0 (Nat.le_of_ble_eq_true rfl) dL_where_7 (i9 := 5) (pc9 := 21) (pre9 := [(0, 12, 15, 19)]) (suf9 := []) (x9 := (0, 12, 19, 25)) rfl (by intro z hz; simp [tableOf] at hz; subst hz; exact Or.inr ⟨by decide, _, cl_L_19, fun _ _ _ _ h9 => h9.2.2.2.2.2.2.2.2 ("java/lang/IllegalArgumentException", "java/lang/IndexOutOfBoundsException") (by decide +kernel)⟩) (by decide) (by decide) cl_L_25 (by decide +kernel) rfl (Nat.le_of_ble_eq_true rfl) rfl (Or.inl ⟨dL_where_19, rfl⟩) ?_
  refine sw_lo (lo2 := [some (.ref 0), some (.int _), some (.int _), some (.int _), some (.ref 74), none]) rfl ?_
  refine sw_ins (pc2 := 21) rfl rfl ?_
  refine sw_ic 2 dL_where_21 ?_
  exact sw_ireturn rfl dL_where_22
set_option maxRecDepth 100000 in
set_option maxHeartbeats 4000000 in
theorem WC_homeIn {d : Nat → Nat → Int32} {r : Nat → Nat → Option Nat} {J : Nat → Nat → Int64} {a1 : Int32} {v : Int32} {d1 : Nat → Nat → Int32} {r1 : Nat → Nat → Option Nat} (h : OP kX6_homeIn yX6_homeIn 7 [.ref 0, .int a1] d r J (some (.int v)) d1 r1 J) : WP kL_homeIn yL_homeIn 8 [.ref 0, .int a1, .ref 74] d r J (some (.int (nI 0))) d1 r1 (d2 J 74 0 v.toInt64) := by
  refine wp_of pl_L_homeIn (Nat.le_of_ble_eq_true rfl) ?_
  refine sw_aload_n (i := 2) dL_homeIn_0 rfl rfl ?_
  refine sw_ic 0 dL_homeIn_1 ?_
  refine sw_aload_n (i := 0) dL_homeIn_2 rfl rfl ?_
  refine sw_iload_n (i := 1) dL_homeIn_3 rfl rfl ?_
  refine px_Vx mv_L_75 h rfl rfl (Nat.le_of_ble_eq_true rfl) (Nat.le_of_ble_eq_true rfl) ko_0 (Nat.le_of_ble_eq_true rfl) dL_homeIn_4 ?_
  refine sw_i2l dL_homeIn_7 ?_
  refine sx_last (0) rfl rfl (by omega) dL_homeIn_8 ?_
  refine sw_ins (pc2 := 9) rfl rfl ?_
  refine sw_goto (tgt := 15) dL_homeIn_9 rfl ?_
  refine sw_ic 0 dL_homeIn_15 ?_
  exact sw_ireturn rfl dL_homeIn_16
set_option maxRecDepth 100000 in
set_option maxHeartbeats 4000000 in
theorem WT1_homeIn {d : Nat → Nat → Int32} {r : Nat → Nat → Option Nat} {J : Nat → Nat → Int64} {a1 : Int32} (h : OT kX6_homeIn yX6_homeIn 7 [.ref 0, .int a1] d r J "java/lang/IllegalArgumentException") : WP kL_homeIn yL_homeIn 8 [.ref 0, .int a1, .ref 74] d r J (some (.int (nI 1))) d r J := by
  refine wp_of pl_L_homeIn (Nat.le_of_ble_eq_true rfl) ?_
  refine sw_aload_n (i := 2) dL_homeIn_0 rfl rfl ?_
  refine sw_ic 0 dL_homeIn_1 ?_
  refine sw_aload_n (i := 0) dL_homeIn_2 rfl rfl ?_
  refine sw_iload_n (i := 1) dL_homeIn_3 rfl rfl ?_
  refine px_VC mv_L_75 h rfl rfl (Nat.le_of_ble_eq_true rfl) (Nat.le_of_ble_eq_true rfl) ko_0 (Nat.le_of_ble_eq_true rfl) dL_homeIn_4 (i9 := 3) (pc9 := 13) (pre9 := []) (suf9 := []) (x9 := (0, 9, 12, 25)) rfl (by intro z hz; simp [tableOf] at hz) (by decide) (by decide) cl_L_25 (by decide +kernel) rfl (Nat.le_of_ble_eq_true rfl) rfl (Or.inr ⟨_, dL_homeIn_12, rfl, rfl⟩) ?_
  refine sw_lo (lo2 := [some (.ref 0), some (.int _), some (.ref 74), none]) rfl ?_
  refine sw_ic 1 dL_homeIn_13 ?_
  exact sw_ireturn rfl dL_homeIn_14
set_option maxRecDepth 100000 in
set_option maxHeartbeats 4000000 in
theorem WC_fewest {d : Nat → Nat → Int32} {r : Nat → Nat → Option Nat} {J : Nat → Nat → Int64} {a1 a2 a3 : Int32} {v : Int32} {d1 : Nat → Nat → Int32} {r1 : Nat → Nat → Option Nat} (h : OP kX6_fewest yX6_fewest 7 [.ref 0, .int a1, .int a2, .int a3] d r J (some (.int v)) d1 r1 J) : WP kL_fewest yL_fewest 8 [.ref 0, .int a1, .int a2, .int a3, .ref 74] d r J (some (.int (nI 0))) d1 r1 (d2 J 74 0 v.toInt64) := by
  refine wp_of pl_L_fewest (Nat.le_of_ble_eq_true rfl) ?_
  refine sw_aload (i := 4) dL_fewest_0 rfl ?_
  refine sw_ic 0 dL_fewest_2 ?_
  refine sw_aload_n (i := 0) dL_fewest_3 rfl rfl ?_
  refine sw_iload_n (i := 1) dL_fewest_4 rfl rfl ?_
  refine sw_iload_n (i := 2) dL_fewest_5 rfl rfl ?_
  refine sw_iload_n (i := 3) dL_fewest_6 rfl rfl ?_
  refine px_Vx mv_L_78 h rfl rfl (Nat.le_of_ble_eq_true rfl) (Nat.le_of_ble_eq_true rfl) ko_0 (Nat.le_of_ble_eq_true rfl) dL_fewest_7 ?_
  refine sw_ins (pc2 := 10) rfl rfl ?_
  refine sw_i2l dL_fewest_10 ?_
  refine sx_last (0) rfl rfl (by omega) dL_fewest_11 ?_
  refine sw_goto (tgt := 23) dL_fewest_12 rfl ?_
  refine sw_ic 0 dL_fewest_23 ?_
  exact sw_ireturn rfl dL_fewest_24
set_option maxRecDepth 100000 in
set_option maxHeartbeats 4000000 in
theorem WT1_fewest {d : Nat → Nat → Int32} {r : Nat → Nat → Option Nat} {J : Nat → Nat → Int64} {a1 a2 a3 : Int32} (h : OT kX6_fewest yX6_fewest 7 [.ref 0, .int a1, .int a2, .int a3] d r J "java/lang/IndexOutOfBoundsException") : WP kL_fewest yL_fewest 8 [.ref 0, .int a1, .int a2, .int a3, .ref 74] d r J (some (.int (nI 1))) d r J := by
  refine wp_of pl_L_fewest (Nat.le_of_ble_eq_true rfl) ?_
  refine sw_aload (i := 4) dL_fewest_0 rfl ?_
  refine sw_ic 0 dL_fewest_2 ?_
  refine sw_aload_n (i := 0) dL_fewest_3 rfl rfl ?_
  refine sw_iload_n (i := 1) dL_fewest_4 rfl rfl ?_
  refine sw_iload_n (i := 2) dL_fewest_5 rfl rfl ?_
  refine sw_iload_n (i := 3) dL_fewest_6 rfl rfl ?_
  refine px_VC mv_L_78 h rfl rfl (Nat.le_of_ble_eq_true rfl) (Nat.le_of_ble_eq_true rfl) ko_0 (Nat.le_of_ble_eq_true rfl) dL_fewest_7 (i9 := 5) (pc9 := 17) (pre9 := []) (suf9 := [(0, 12, 19, 25)]) (x9 := (0, 12, 15, 19)) rfl (by intro z hz; simp [tableOf] at hz) (by decide) (by decide) cl_L_19 (by decide +kernel) rfl (Nat.le_of_ble_eq_true rfl) rfl (Or.inl ⟨dL_fewest_15, rfl⟩) ?_
  refine sw_lo (lo2 := [some (.ref 0), some (.int _), some (.int _), some (.int _), some (.ref 74), none]) rfl ?_
  refine sw_ins (pc2 := 17) rfl rfl ?_
  refine sw_ic 1 dL_fewest_17 ?_
  exact sw_ireturn rfl dL_fewest_18
set_option maxRecDepth 100000 in
set_option maxHeartbeats 4000000 in
theorem WT2_fewest {d : Nat → Nat → Int32} {r : Nat → Nat → Option Nat} {J : Nat → Nat → Int64} {a1 a2 a3 : Int32} (h : OT kX6_fewest yX6_fewest 7 [.ref 0, .int a1, .int a2, .int a3] d r J "java/lang/IllegalArgumentException") : WP kL_fewest yL_fewest 8 [.ref 0, .int a1, .int a2, .int a3, .ref 74] d r J (some (.int (nI 2))) d r J := by
  refine wp_of pl_L_fewest (Nat.le_of_ble_eq_true rfl) ?_
  refine sw_aload (i := 4) dL_fewest_0 rfl ?_
  refine sw_ic 0 dL_fewest_2 ?_
  refine sw_aload_n (i := 0) dL_fewest_3 rfl rfl ?_
  refine sw_iload_n (i := 1) dL_fewest_4 rfl rfl ?_
  refine sw_iload_n (i := 2) dL_fewest_5 rfl rfl ?_
  refine sw_iload_n (i := 3) dL_fewest_6 rfl rfl ?_
  refine px_VC mv_L_78 h rfl rfl (Nat.le_of_ble_eq_true rfl) (Nat.le_of_ble_eq_true rfl) ko_0 (Nat.le_of_ble_eq_true rfl) dL_fewest_7 (i9 := 5) (pc9 := 21) (pre9 := [(0, 12, 15, 19)]) (suf9 := []) (x9 := (0, 12, 19, 25)) rfl (by intro z hz; simp [tableOf] at hz; subst hz; exact Or.inr ⟨by decide, _, cl_L_19, fun _ _ _ _ h9 => h9.2.2.2.2.2.2.2.2 ("java/lang/IllegalArgumentException", "java/lang/IndexOutOfBoundsException") (by decide +kernel)⟩) (by decide) (by decide) cl_L_25 (by decide +kernel) rfl (Nat.le_of_ble_eq_true rfl) rfl (Or.inl ⟨dL_fewest_19, rfl⟩) ?_
  refine sw_lo (lo2 := [some (.ref 0), some (.int _), some (.int _), some (.int _), some (.ref 74), none]) rfl ?_
  refine sw_ins (pc2 := 21) rfl rfl ?_
  refine sw_ic 2 dL_fewest_21 ?_
  exact sw_ireturn rfl dL_fewest_22
set_option maxRecDepth 100000 in
set_option maxHeartbeats 4000000 in
theorem WC_canKeepIn {d : Nat → Nat → Int32} {r : Nat → Nat → Option Nat} {J : Nat → Nat → Int64} {a1 : Int32} {v : Int32} {d1 : Nat → Nat → Int32} {r1 : Nat → Nat → Option Nat} (h : OP kX6_canKeepIn yX6_canKeepIn 7 [.ref 0, .int a1] d r J (some (.int v)) d1 r1 J) : WP kL_canKeepIn yL_canKeepIn 8 [.ref 0, .int a1, .ref 74] d r J (some (.int (nI 0))) d1 r1 (d2 J 74 0 v.toInt64) := by
  refine wp_of pl_L_canKeepIn (Nat.le_of_ble_eq_true rfl) ?_
  refine sw_aload_n (i := 2) dL_canKeepIn_0 rfl rfl ?_
  refine sw_ic 0 dL_canKeepIn_1 ?_
  refine sw_aload_n (i := 0) dL_canKeepIn_2 rfl rfl ?_
  refine sw_iload_n (i := 1) dL_canKeepIn_3 rfl rfl ?_
  refine px_Vx mv_L_81 h rfl rfl (Nat.le_of_ble_eq_true rfl) (Nat.le_of_ble_eq_true rfl) ko_0 (Nat.le_of_ble_eq_true rfl) dL_canKeepIn_4 ?_
  refine sw_i2l dL_canKeepIn_7 ?_
  refine sx_last (0) rfl rfl (by omega) dL_canKeepIn_8 ?_
  refine sw_ins (pc2 := 9) rfl rfl ?_
  refine sw_goto (tgt := 15) dL_canKeepIn_9 rfl ?_
  refine sw_ic 0 dL_canKeepIn_15 ?_
  exact sw_ireturn rfl dL_canKeepIn_16
set_option maxRecDepth 100000 in
set_option maxHeartbeats 4000000 in
theorem WT1_canKeepIn {d : Nat → Nat → Int32} {r : Nat → Nat → Option Nat} {J : Nat → Nat → Int64} {a1 : Int32} (h : OT kX6_canKeepIn yX6_canKeepIn 7 [.ref 0, .int a1] d r J "java/lang/IndexOutOfBoundsException") : WP kL_canKeepIn yL_canKeepIn 8 [.ref 0, .int a1, .ref 74] d r J (some (.int (nI 1))) d r J := by
  refine wp_of pl_L_canKeepIn (Nat.le_of_ble_eq_true rfl) ?_
  refine sw_aload_n (i := 2) dL_canKeepIn_0 rfl rfl ?_
  refine sw_ic 0 dL_canKeepIn_1 ?_
  refine sw_aload_n (i := 0) dL_canKeepIn_2 rfl rfl ?_
  refine sw_iload_n (i := 1) dL_canKeepIn_3 rfl rfl ?_
  refine px_VC mv_L_81 h rfl rfl (Nat.le_of_ble_eq_true rfl) (Nat.le_of_ble_eq_true rfl) ko_0 (Nat.le_of_ble_eq_true rfl) dL_canKeepIn_4 (i9 := 3) (pc9 := 13) (pre9 := []) (suf9 := []) (x9 := (0, 9, 12, 19)) rfl (by intro z hz; simp [tableOf] at hz) (by decide) (by decide) cl_L_19 (by decide +kernel) rfl (Nat.le_of_ble_eq_true rfl) rfl (Or.inr ⟨_, dL_canKeepIn_12, rfl, rfl⟩) ?_
  refine sw_lo (lo2 := [some (.ref 0), some (.int _), some (.ref 74), none]) rfl ?_
  refine sw_ic 1 dL_canKeepIn_13 ?_
  exact sw_ireturn rfl dL_canKeepIn_14
