/-! THE LAW'S METHODS, 5: act -/
theorem cmp_same (x : Int64) : lg_cmp x x = 0 := by
  unfold lg_cmp
  simp
theorem i_20 (A B T H : Nat) (h : B + H = A + T) : nI (20 * B) = nI (20 * A) + nI 20 * (nI T - nI H) := by
  have e1 : nI 20 * (nI T - nI H) + nI (20 * H) = nI (20 * T) := by
    rw [← pk_mul, ← pk_mul, ← Int32.mul_add]
    congr 1
    exact Int32.sub_add_cancel _ _
  have e2 : nI (20 * B) + nI (20 * H) = nI (20 * A) + nI (20 * T) := by
    rw [nI_add, nI_add]
    congr 1
    omega
  rw [← e1, ← Int32.add_assoc] at e2
  exact (Int32.add_left_inj _).mp e2
theorem wsm_upd {V : Nat → Int32} {c w : Nat} (hc : c < 4) (hw : w ≤ 9) : wsm (upd V (7 + c) (nI w)) + wt V c = wsm V + w := by
  have h : ∀ k, k < 4 → wt (upd V (7 + c) (nI w)) k = if k = c then w else wt V k := by
    intro k hk
    unfold wt nv
    by_cases e : k = c
    · subst e
      rw [upd_eq, if_pos rfl, nI_clamp (by omega)]
    · rw [upd_ne _ _ (by omega), if_neg e]
  unfold wsm
  rw [h 0 (by decide), h 1 (by decide), h 2 (by decide), h 3 (by decide)]
  match c, hc with
  | 0, _ => rw [if_pos rfl, if_neg (by decide), if_neg (by decide), if_neg (by decide)]; omega
  | 1, _ => rw [if_neg (by decide), if_pos rfl, if_neg (by decide), if_neg (by decide)]; omega
  | 2, _ => rw [if_neg (by decide), if_neg (by decide), if_pos rfl, if_neg (by decide)]; omega
  | 3, _ => rw [if_neg (by decide), if_neg (by decide), if_neg (by decide), if_pos rfl]; omega
set_option maxRecDepth 100000 in
set_option maxHeartbeats 4000000 in
theorem act_storms {d : Nat → Nat → Int32} {r : Nat → Nat → Option Nat} {J : Nat → Nat → Int64} {D : Nat} {v w : Int32} (g : LI D d r) (hD9 : D ≤ 100) {s : Nat} (hs1 : 0 ≤ s) (hs2 : s < 3) (ls : ∀ (d : Nat → Nat → Int32) (r : Nat → Nat → Option Nat), OP kL_low yL_low 0 [.int v, .int (nI 20)] d r J (some (.int (nI s))) d r J) : ∃ d1 r1, OB kL_act yL_act 10 [.ref 0, .int v, .int w] d r J (some (.int (nI 1))) d1 r1 J 2 40 ∧ LI (D + 1) d1 r1 := by
  obtain ⟨V, n, H, S, t, T, tl, h, iv, hd, hD⟩ := g
  obtain ⟨okP, okM, okT9, okC, okW, okD⟩ := id iv.1
  have hm8 := okM.2
  have hmn : ∀ n, cnt V n 3 = nI (nv V 1) := fun _ => okM.1
  obtain ⟨d1, r1, z1, z2⟩ := A_L_storms (J := J) h iv hd hD (by omega)
  refine ⟨d1, r1, am_of pl_L_act (Nat.le_of_ble_eq_true rfl) ?_, ?_⟩
  ·
    refine sw_iload_n (i := 1) dL_act_0 rfl rfl ?_
    refine sw_bi 20 dL_act_1 (by decide +kernel) ?_
    refine px_Sx ms_L_62 (ls _ _) rfl rfl (Nat.le_of_ble_eq_true rfl) (Nat.le_of_ble_eq_true rfl) (Nat.le_of_ble_eq_true rfl) dL_act_3 ?_
    refine sw_istore_n (i := 3) dL_act_6 rfl (Nat.le_of_ble_eq_true rfl) rfl ?_
    refine sw_lo (lo2 := [some (.ref 0), some (.int _), some (.int _), some (.int _), none, none, none, none, none, none, none]) rfl ?_
    refine sw_iload_n (i := 3) dL_act_7 rfl rfl ?_
    refine sw_ic 3 dL_act_8 ?_
    refine sw_ic_ge (tgt := 17) dL_act_9 rfl (fun h9 => absurd h9 (nI_ge (by omega) (by omega))) (fun _ => ?_)
    refine sw_ins (pc2 := 12) rfl rfl ?_
    refine sw_aload_n (i := 0) dL_act_12 rfl rfl ?_
    refine px_SB (k2 := 0) (n2 := 0) ms_L_75 z1 (by omega) (by omega) rfl rfl (Nat.le_of_ble_eq_true rfl) (Nat.le_of_ble_eq_true rfl) (Nat.le_of_ble_eq_true rfl) dL_act_13 ?_
    exact sw_zreturnE rfl rfl rfl dL_act_16
  · exact z2
set_option maxRecDepth 100000 in
set_option maxHeartbeats 4000000 in
theorem act_cross {d : Nat → Nat → Int32} {r : Nat → Nat → Option Nat} {J : Nat → Nat → Int64} {D : Nat} {v w : Int32} (g : LI D d r) (hD9 : D ≤ 100) {s : Nat} (hs1 : 3 ≤ s) (hs2 : s < 5) (ls : ∀ (d : Nat → Nat → Int32) (r : Nat → Nat → Option Nat), OP kL_low yL_low 0 [.int v, .int (nI 20)] d r J (some (.int (nI s))) d r J) : ∃ d1 r1, OB kL_act yL_act 10 [.ref 0, .int v, .int w] d r J (some (.int (nI 1))) d1 r1 J 2 40 ∧ LI (D + 1) d1 r1 := by
  obtain ⟨V, n, H, S, t, T, tl, h, iv, hd, hD⟩ := g
  obtain ⟨okP, okM, okT9, okC, okW, okD⟩ := id iv.1
  have hm8 := okM.2
  have hmn : ∀ n, cnt V n 3 = nI (nv V 1) := fun _ => okM.1
  obtain ⟨i, hi, li⟩ : ∃ q9, q9 < 8 ∧ ∀ (d : Nat → Nat → Int32) (r : Nat → Nat → Option Nat), OP kL_low yL_low 0 [.int (w), .int (nI 8)] d r J (some (.int (nI q9))) d r J := ⟨lw (w) (8), lw_lt _ (by omega), fun d r => A_L_low (by omega) (by omega)⟩
  obtain ⟨j, hj, lj⟩ : ∃ q9, q9 < 8 ∧ ∀ (d : Nat → Nat → Int32) (r : Nat → Nat → Option Nat), OP kL_low yL_low 0 [.int (w >>> (nI 3 &&& 31)), .int (nI 8)] d r J (some (.int (nI q9))) d r J := ⟨lw (w >>> (nI 3 &&& 31)) (8), lw_lt _ (by omega), fun d r => A_L_low (by omega) (by omega)⟩
  obtain ⟨b6, hb6, lb6⟩ : ∃ q9, q9 < 2 ∧ ∀ (d : Nat → Nat → Int32) (r : Nat → Nat → Option Nat), OP kL_low yL_low 0 [.int (w >>> (nI 6 &&& 31)), .int (nI 2)] d r J (some (.int (nI q9))) d r J := ⟨lw (w >>> (nI 6 &&& 31)) (2), lw_lt _ (by omega), fun d r => A_L_low (by omega) (by omega)⟩
  obtain ⟨e1, x1, y1, -⟩ := C_islanderOf (J := J) (a := j) (k := 1) h iv hj (by decide)
  obtain ⟨e2, x2, y2⟩ := A_L_tale (J := J) y1 iv
  obtain ⟨e3, r3, x3, y3, -⟩ := C_cross (J := J) y2 iv hi hj
  rw [swp_self] at x3
  have iv3 := IV_push (rc6 y2) iv (ok_swp iv.1 hi hj) (T' := T) (tl' := tl) trivial
  obtain ⟨e4, x4, y4, -⟩ := C_islanderOf (J := J) (a := i) (k := 1) y3 iv3 hi (by decide)
  rw [show isl (swp V i j) i 1 = V (11 + j) from swp_self] at x4
  by_cases hb : b6 = 0
  · subst hb
    refine ⟨e4, r3, am_of pl_L_act (Nat.le_of_ble_eq_true rfl) ?_, ?_⟩
    ·
      refine sw_iload_n (i := 1) dL_act_0 rfl rfl ?_
      refine sw_bi 20 dL_act_1 (by decide +kernel) ?_
      refine px_Sx ms_L_62 (ls _ _) rfl rfl (Nat.le_of_ble_eq_true rfl) (Nat.le_of_ble_eq_true rfl) (Nat.le_of_ble_eq_true rfl) dL_act_3 ?_
      refine sw_istore_n (i := 3) dL_act_6 rfl (Nat.le_of_ble_eq_true rfl) rfl ?_
      refine sw_lo (lo2 := [some (.ref 0), some (.int _), some (.int _), some (.int _), none, none, none, none, none, none, none]) rfl ?_
      refine sw_iload_n (i := 3) dL_act_7 rfl rfl ?_
      refine sw_ic 3 dL_act_8 ?_
      refine sw_ic_ge (tgt := 17) dL_act_9 rfl (fun _ => ?_) (fun h9 => absurd (nI_le (by omega) (by omega)) h9)
      refine sw_ins (pc2 := 17) rfl rfl ?_
      refine sw_iload_n (i := 3) dL_act_17 rfl rfl ?_
      refine sw_ic 5 dL_act_18 ?_
      refine sw_ic_ge (tgt := 130) dL_act_19 rfl (fun h9 => absurd h9 (nI_ge (by omega) (by omega))) (fun _ => ?_)
      refine sw_iload_n (i := 2) dL_act_22 rfl rfl ?_
      refine sw_bi 8 dL_act_23 (by decide +kernel) ?_
      refine px_Sx ms_L_62 (li _ _) rfl rfl (Nat.le_of_ble_eq_true rfl) (Nat.le_of_ble_eq_true rfl) (Nat.le_of_ble_eq_true rfl) dL_act_25 ?_
      refine sw_istore (i := 4) dL_act_28 (Nat.le_of_ble_eq_true rfl) rfl ?_
      refine sw_lo (lo2 := [some (.ref 0), some (.int _), some (.int _), some (.int _), some (.int _), none, none, none, none, none, none]) rfl ?_
      refine sw_iload_n (i := 2) dL_act_30 rfl rfl ?_
      refine sw_ins (pc2 := 31) rfl rfl ?_
      refine sw_ic 3 dL_act_31 ?_
      refine sw_ishr rfl dL_act_32 ?_
      refine sw_bi 8 dL_act_33 (by decide +kernel) ?_
      refine px_Sx ms_L_62 (lj _ _) rfl rfl (Nat.le_of_ble_eq_true rfl) (Nat.le_of_ble_eq_true rfl) (Nat.le_of_ble_eq_true rfl) dL_act_35 ?_
      refine sw_istore (i := 5) dL_act_38 (Nat.le_of_ble_eq_true rfl) rfl ?_
      refine sw_lo (lo2 := [some (.ref 0), some (.int _), some (.int _), some (.int _), some (.int _), some (.int _), none, none, none, none, none]) rfl ?_
      refine sw_aload_n (i := 0) dL_act_40 rfl rfl ?_
      refine sw_iload (i := 5) dL_act_41 rfl ?_
      refine sw_ic 1 dL_act_43 ?_
      refine sw_ins (pc2 := 44) rfl rfl ?_
      refine px_Vx mv_L_20 x1 rfl rfl (Nat.le_of_ble_eq_true rfl) (Nat.le_of_ble_eq_true rfl) ko_0 (Nat.le_of_ble_eq_true rfl) dL_act_44 ?_
      refine sw_istore (i := 6) dL_act_47 (Nat.le_of_ble_eq_true rfl) rfl ?_
      refine sw_lo (lo2 := [some (.ref 0), some (.int _), some (.int _), some (.int _), some (.int _), some (.int _), some (.int _), none, none, none, none]) rfl ?_
      refine sw_aload_n (i := 0) dL_act_49 rfl rfl ?_
      refine px_Sx ms_L_79 x2 rfl rfl (Nat.le_of_ble_eq_true rfl) (Nat.le_of_ble_eq_true rfl) (Nat.le_of_ble_eq_true rfl) dL_act_50 ?_
      refine sw_lstore (i := 7) dL_act_53 (Nat.le_of_ble_eq_true rfl) rfl ?_
      refine sw_lo (lo2 := [some (.ref 0), some (.int _), some (.int _), some (.int _), some (.int _), some (.int _), some (.int _), some (.long _), none, none, none]) rfl ?_
      refine sw_aload_n (i := 0) dL_act_55 rfl rfl ?_
      refine sw_iload (i := 4) dL_act_56 rfl ?_
      refine sw_iload (i := 5) dL_act_58 rfl ?_
      refine sw_ins (pc2 := 60) rfl rfl ?_
      refine px_Vx mv_L_83 x3 rfl rfl (Nat.le_of_ble_eq_true rfl) (Nat.le_of_ble_eq_true rfl) ko_0 (Nat.le_of_ble_eq_true rfl) dL_act_60 ?_
      refine sw_iload (i := 6) dL_act_63 rfl ?_
      refine sw_ic_ne (tgt := 84) dL_act_65 rfl (fun h9 => absurd rfl h9) (fun _ => ?_)
      refine sw_aload_n (i := 0) dL_act_68 rfl rfl ?_
      refine sw_iload (i := 4) dL_act_69 rfl ?_
      refine sw_ic 1 dL_act_71 ?_
      refine px_Vx mv_L_20 x4 rfl rfl (Nat.le_of_ble_eq_true rfl) (Nat.le_of_ble_eq_true rfl) ko_0 (Nat.le_of_ble_eq_true rfl) dL_act_72 ?_
      refine sw_iload (i := 6) dL_act_75 rfl ?_
      refine sw_ins (pc2 := 77) rfl rfl ?_
      refine sw_ic_ne (tgt := 84) dL_act_77 rfl (fun h9 => absurd rfl h9) (fun _ => ?_)
      refine sw_ic 1 dL_act_80 ?_
      refine sw_goto (tgt := 85) dL_act_81 rfl ?_
      refine sw_istore (i := 9) dL_act_85 (Nat.le_of_ble_eq_true rfl) rfl ?_
      refine sw_lo (lo2 := [some (.ref 0), some (.int _), some (.int _), some (.int _), some (.int _), some (.int _), some (.int _), some (.long _), none, some (.int _), none]) rfl ?_
      refine sw_iload (i := 9) dL_act_87 rfl ?_
      refine sw_if_eq (tgt := 128) dL_act_89 rfl (fun h9 => absurd h9 (by decide)) (fun _ => ?_)
      refine sw_iload_n (i := 2) dL_act_92 rfl rfl ?_
      refine sw_bi 6 dL_act_93 (by decide +kernel) ?_
      refine sw_ins (pc2 := 95) rfl rfl ?_
      refine sw_ishr rfl dL_act_95 ?_
      refine sw_ic 2 dL_act_96 ?_
      refine px_Sx ms_L_62 (lb6 _ _) rfl rfl (Nat.le_of_ble_eq_true rfl) (Nat.le_of_ble_eq_true rfl) (Nat.le_of_ble_eq_true rfl) dL_act_97 ?_
      refine sw_if_eq (tgt := 124) dL_act_100 rfl (fun _ => ?_) (fun h9 => absurd (by decide) h9)
      refine sw_ic 1 dL_act_124 ?_
      refine sw_goto (tgt := 129) dL_act_125 rfl ?_
      exact sw_zreturnE rfl rfl rfl dL_act_129
    · exact ⟨_, _, _, _, _, _, _, y4, iv3, due_swp hd hi hj, dd_mono (dd_swp hD hi hj) (by omega)⟩
  · obtain ⟨e5, r5, x5, y5, -⟩ := C_cross (J := J) y4 iv3 hi hj
    rw [swp_swp hi hj] at x5 y5
    have iv5 := IV_push (rc6 y4) iv3 iv.1 (T' := T) (tl' := tl) trivial
    obtain ⟨e6, x6, y6⟩ := A_L_tale (J := J) y5 iv5
    refine ⟨e6, r5, am_of pl_L_act (Nat.le_of_ble_eq_true rfl) ?_, ?_⟩
    ·
      refine sw_iload_n (i := 1) dL_act_0 rfl rfl ?_
      refine sw_bi 20 dL_act_1 (by decide +kernel) ?_
      refine px_Sx ms_L_62 (ls _ _) rfl rfl (Nat.le_of_ble_eq_true rfl) (Nat.le_of_ble_eq_true rfl) (Nat.le_of_ble_eq_true rfl) dL_act_3 ?_
      refine sw_istore_n (i := 3) dL_act_6 rfl (Nat.le_of_ble_eq_true rfl) rfl ?_
      refine sw_lo (lo2 := [some (.ref 0), some (.int _), some (.int _), some (.int _), none, none, none, none, none, none, none]) rfl ?_
      refine sw_iload_n (i := 3) dL_act_7 rfl rfl ?_
      refine sw_ic 3 dL_act_8 ?_
      refine sw_ic_ge (tgt := 17) dL_act_9 rfl (fun _ => ?_) (fun h9 => absurd (nI_le (by omega) (by omega)) h9)
      refine sw_ins (pc2 := 17) rfl rfl ?_
      refine sw_iload_n (i := 3) dL_act_17 rfl rfl ?_
      refine sw_ic 5 dL_act_18 ?_
      refine sw_ic_ge (tgt := 130) dL_act_19 rfl (fun h9 => absurd h9 (nI_ge (by omega) (by omega))) (fun _ => ?_)
      refine sw_iload_n (i := 2) dL_act_22 rfl rfl ?_
      refine sw_bi 8 dL_act_23 (by decide +kernel) ?_
      refine px_Sx ms_L_62 (li _ _) rfl rfl (Nat.le_of_ble_eq_true rfl) (Nat.le_of_ble_eq_true rfl) (Nat.le_of_ble_eq_true rfl) dL_act_25 ?_
      refine sw_istore (i := 4) dL_act_28 (Nat.le_of_ble_eq_true rfl) rfl ?_
      refine sw_lo (lo2 := [some (.ref 0), some (.int _), some (.int _), some (.int _), some (.int _), none, none, none, none, none, none]) rfl ?_
      refine sw_iload_n (i := 2) dL_act_30 rfl rfl ?_
      refine sw_ins (pc2 := 31) rfl rfl ?_
      refine sw_ic 3 dL_act_31 ?_
      refine sw_ishr rfl dL_act_32 ?_
      refine sw_bi 8 dL_act_33 (by decide +kernel) ?_
      refine px_Sx ms_L_62 (lj _ _) rfl rfl (Nat.le_of_ble_eq_true rfl) (Nat.le_of_ble_eq_true rfl) (Nat.le_of_ble_eq_true rfl) dL_act_35 ?_
      refine sw_istore (i := 5) dL_act_38 (Nat.le_of_ble_eq_true rfl) rfl ?_
      refine sw_lo (lo2 := [some (.ref 0), some (.int _), some (.int _), some (.int _), some (.int _), some (.int _), none, none, none, none, none]) rfl ?_
      refine sw_aload_n (i := 0) dL_act_40 rfl rfl ?_
      refine sw_iload (i := 5) dL_act_41 rfl ?_
      refine sw_ic 1 dL_act_43 ?_
      refine sw_ins (pc2 := 44) rfl rfl ?_
      refine px_Vx mv_L_20 x1 rfl rfl (Nat.le_of_ble_eq_true rfl) (Nat.le_of_ble_eq_true rfl) ko_0 (Nat.le_of_ble_eq_true rfl) dL_act_44 ?_
      refine sw_istore (i := 6) dL_act_47 (Nat.le_of_ble_eq_true rfl) rfl ?_
      refine sw_lo (lo2 := [some (.ref 0), some (.int _), some (.int _), some (.int _), some (.int _), some (.int _), some (.int _), none, none, none, none]) rfl ?_
      refine sw_aload_n (i := 0) dL_act_49 rfl rfl ?_
      refine px_Sx ms_L_79 x2 rfl rfl (Nat.le_of_ble_eq_true rfl) (Nat.le_of_ble_eq_true rfl) (Nat.le_of_ble_eq_true rfl) dL_act_50 ?_
      refine sw_lstore (i := 7) dL_act_53 (Nat.le_of_ble_eq_true rfl) rfl ?_
      refine sw_lo (lo2 := [some (.ref 0), some (.int _), some (.int _), some (.int _), some (.int _), some (.int _), some (.int _), some (.long _), none, none, none]) rfl ?_
      refine sw_aload_n (i := 0) dL_act_55 rfl rfl ?_
      refine sw_iload (i := 4) dL_act_56 rfl ?_
      refine sw_iload (i := 5) dL_act_58 rfl ?_
      refine sw_ins (pc2 := 60) rfl rfl ?_
      refine px_Vx mv_L_83 x3 rfl rfl (Nat.le_of_ble_eq_true rfl) (Nat.le_of_ble_eq_true rfl) ko_0 (Nat.le_of_ble_eq_true rfl) dL_act_60 ?_
      refine sw_iload (i := 6) dL_act_63 rfl ?_
      refine sw_ic_ne (tgt := 84) dL_act_65 rfl (fun h9 => absurd rfl h9) (fun _ => ?_)
      refine sw_aload_n (i := 0) dL_act_68 rfl rfl ?_
      refine sw_iload (i := 4) dL_act_69 rfl ?_
      refine sw_ic 1 dL_act_71 ?_
      refine px_Vx mv_L_20 x4 rfl rfl (Nat.le_of_ble_eq_true rfl) (Nat.le_of_ble_eq_true rfl) ko_0 (Nat.le_of_ble_eq_true rfl) dL_act_72 ?_
      refine sw_iload (i := 6) dL_act_75 rfl ?_
      refine sw_ins (pc2 := 77) rfl rfl ?_
      refine sw_ic_ne (tgt := 84) dL_act_77 rfl (fun h9 => absurd rfl h9) (fun _ => ?_)
      refine sw_ic 1 dL_act_80 ?_
      refine sw_goto (tgt := 85) dL_act_81 rfl ?_
      refine sw_istore (i := 9) dL_act_85 (Nat.le_of_ble_eq_true rfl) rfl ?_
      refine sw_lo (lo2 := [some (.ref 0), some (.int _), some (.int _), some (.int _), some (.int _), some (.int _), some (.int _), some (.long _), none, some (.int _), none]) rfl ?_
      refine sw_iload (i := 9) dL_act_87 rfl ?_
      refine sw_if_eq (tgt := 128) dL_act_89 rfl (fun h9 => absurd h9 (by decide)) (fun _ => ?_)
      refine sw_iload_n (i := 2) dL_act_92 rfl rfl ?_
      refine sw_bi 6 dL_act_93 (by decide +kernel) ?_
      refine sw_ins (pc2 := 95) rfl rfl ?_
      refine sw_ishr rfl dL_act_95 ?_
      refine sw_ic 2 dL_act_96 ?_
      refine px_Sx ms_L_62 (lb6 _ _) rfl rfl (Nat.le_of_ble_eq_true rfl) (Nat.le_of_ble_eq_true rfl) (Nat.le_of_ble_eq_true rfl) dL_act_97 ?_
      refine sw_if_eq (tgt := 124) dL_act_100 rfl (fun h9 => absurd h9 (nI_ne0 (by omega) (by omega))) (fun _ => ?_)
      refine sw_aload_n (i := 0) dL_act_103 rfl rfl ?_
      refine sw_iload (i := 4) dL_act_104 rfl ?_
      refine sw_iload (i := 5) dL_act_106 rfl ?_
      refine px_Vx mv_L_83 x5 rfl rfl (Nat.le_of_ble_eq_true rfl) (Nat.le_of_ble_eq_true rfl) ko_0 (Nat.le_of_ble_eq_true rfl) dL_act_108 ?_
      refine sw_ins (pc2 := 111) rfl rfl ?_
      refine sw_if_lt (tgt := 128) dL_act_111 rfl (fun h9 => absurd h9 (by rw [(okP.1 i hi).1]; have := (okP.1 i hi).2; exact nI_pos (by omega))) (fun _ => ?_)
      refine sw_aload_n (i := 0) dL_act_114 rfl rfl ?_
      refine px_Sx ms_L_79 x6 rfl rfl (Nat.le_of_ble_eq_true rfl) (Nat.le_of_ble_eq_true rfl) (Nat.le_of_ble_eq_true rfl) dL_act_115 ?_
      refine sw_lload (i := 7) dL_act_118 rfl ?_
      refine sw_lcmp dL_act_120 ?_
      refine sw_if_ne (tgt := 128) dL_act_121 rfl (fun h9 => absurd (cmp_same _) h9) (fun _ => ?_)
      refine sw_ic 1 dL_act_124 ?_
      refine sw_goto (tgt := 129) dL_act_125 rfl ?_
      refine sw_ins (pc2 := 129) rfl rfl ?_
      exact sw_zreturnE rfl rfl rfl dL_act_129
    · exact ⟨_, _, _, _, _, _, _, y6, iv5, hd, dd_mono hD (by omega)⟩
set_option maxRecDepth 100000 in
set_option maxHeartbeats 4000000 in
theorem act_trades {d : Nat → Nat → Int32} {r : Nat → Nat → Option Nat} {J : Nat → Nat → Int64} {D : Nat} {v w : Int32} (g : LI D d r) (hD9 : D ≤ 100) {s : Nat} (hs1 : 5 ≤ s) (hs2 : s < 9) (ls : ∀ (d : Nat → Nat → Int32) (r : Nat → Nat → Option Nat), OP kL_low yL_low 0 [.int v, .int (nI 20)] d r J (some (.int (nI s))) d r J) : ∃ d1 r1, OB kL_act yL_act 10 [.ref 0, .int v, .int w] d r J (some (.int (nI 1))) d1 r1 J 2 40 ∧ LI (D + 1) d1 r1 := by
  obtain ⟨V, n, H, S, t, T, tl, h, iv, hd, hD⟩ := g
  obtain ⟨okP, okM, okT9, okC, okW, okD⟩ := id iv.1
  have hm8 := okM.2
  have hmn : ∀ n, cnt V n 3 = nI (nv V 1) := fun _ => okM.1
  obtain ⟨d1, r1, z1, z2⟩ := A_L_trades (J := J) (v := w) h iv hd hD (by omega)
  refine ⟨d1, r1, am_of pl_L_act (Nat.le_of_ble_eq_true rfl) ?_, ?_⟩
  ·
    refine sw_iload_n (i := 1) dL_act_0 rfl rfl ?_
    refine sw_bi 20 dL_act_1 (by decide +kernel) ?_
    refine px_Sx ms_L_62 (ls _ _) rfl rfl (Nat.le_of_ble_eq_true rfl) (Nat.le_of_ble_eq_true rfl) (Nat.le_of_ble_eq_true rfl) dL_act_3 ?_
    refine sw_istore_n (i := 3) dL_act_6 rfl (Nat.le_of_ble_eq_true rfl) rfl ?_
    refine sw_lo (lo2 := [some (.ref 0), some (.int _), some (.int _), some (.int _), none, none, none, none, none, none, none]) rfl ?_
    refine sw_iload_n (i := 3) dL_act_7 rfl rfl ?_
    refine sw_ic 3 dL_act_8 ?_
    refine sw_ic_ge (tgt := 17) dL_act_9 rfl (fun _ => ?_) (fun h9 => absurd (nI_le (by omega) (by omega)) h9)
    refine sw_ins (pc2 := 17) rfl rfl ?_
    refine sw_iload_n (i := 3) dL_act_17 rfl rfl ?_
    refine sw_ic 5 dL_act_18 ?_
    refine sw_ic_ge (tgt := 130) dL_act_19 rfl (fun _ => ?_) (fun h9 => absurd (nI_le (by omega) (by omega)) h9)
    refine sw_iload_n (i := 3) dL_act_130 rfl rfl ?_
    refine sw_bi 9 dL_act_131 (by decide +kernel) ?_
    refine sw_ic_ge (tgt := 142) dL_act_133 rfl (fun h9 => absurd h9 (nI_ge (by omega) (by omega))) (fun _ => ?_)
    refine sw_aload_n (i := 0) dL_act_136 rfl rfl ?_
    refine sw_iload_n (i := 2) dL_act_137 rfl rfl ?_
    refine sw_ins (pc2 := 138) rfl rfl ?_
    refine px_SB2 (k2 := 2) (n2 := 40) ms_L_86 z1 (by omega) (by omega) rfl rfl (Nat.le_of_ble_eq_true rfl) (Nat.le_of_ble_eq_true rfl) (Nat.le_of_ble_eq_true rfl) dL_act_138 ?_
    exact sw_zreturnE rfl rfl rfl dL_act_141
  · obtain ⟨V9, n9, H9, S9, t9, T9, tl9, g1, g2, g3, g4⟩ := z2
    exact ⟨V9, n9, H9, S9, t9, T9, tl9, g1, g2, g3, dd_mono g4 (by omega)⟩
set_option maxRecDepth 100000 in
set_option maxHeartbeats 4000000 in
theorem act_promise {d : Nat → Nat → Int32} {r : Nat → Nat → Option Nat} {J : Nat → Nat → Int64} {D : Nat} {v w : Int32} (g : LI D d r) (hD9 : D ≤ 100) {s : Nat} (hs1 : 9 ≤ s) (hs2 : s < 14) (ls : ∀ (d : Nat → Nat → Int32) (r : Nat → Nat → Option Nat), OP kL_low yL_low 0 [.int v, .int (nI 20)] d r J (some (.int (nI s))) d r J) : ∃ d1 r1, OB kL_act yL_act 10 [.ref 0, .int v, .int w] d r J (some (.int (nI 1))) d1 r1 J 2 40 ∧ LI (D + 1) d1 r1 := by
  obtain ⟨V, n, H, S, t, T, tl, h, iv, hd, hD⟩ := g
  obtain ⟨okP, okM, okT9, okC, okW, okD⟩ := id iv.1
  have hm8 := okM.2
  have hmn : ∀ n, cnt V n 3 = nI (nv V 1) := fun _ => okM.1
  obtain ⟨a, ha, la⟩ : ∃ q9, q9 < 8 ∧ ∀ (d : Nat → Nat → Int32) (r : Nat → Nat → Option Nat), OP kL_low yL_low 0 [.int (w), .int (nI 8)] d r J (some (.int (nI q9))) d r J := ⟨lw (w) (8), lw_lt _ (by omega), fun d r => A_L_low (by omega) (by omega)⟩
  obtain ⟨b0, hb0, lb0⟩ : ∃ q9, q9 < 7 ∧ ∀ (d : Nat → Nat → Int32) (r : Nat → Nat → Option Nat), OP kL_low yL_low 0 [.int (w >>> (nI 3 &&& 31)), .int (nI 7)] d r J (some (.int (nI q9))) d r J := ⟨lw (w >>> (nI 3 &&& 31)) (7), lw_lt _ (by omega), fun d r => A_L_low (by omega) (by omega)⟩
  obtain ⟨k20, hk20, lk20⟩ : ∃ q9, q9 < 3 ∧ ∀ (d : Nat → Nat → Int32) (r : Nat → Nat → Option Nat), OP kL_low yL_low 0 [.int (w >>> (nI 20 &&& 31)), .int (nI 3)] d r J (some (.int (nI q9))) d r J := ⟨lw (w >>> (nI 20 &&& 31)) (3), lw_lt _ (by omega), fun d r => A_L_low (by omega) (by omega)⟩
  obtain ⟨y, hy, ly⟩ : ∃ q9, q9 < 10 ∧ ∀ (d : Nat → Nat → Int32) (r : Nat → Nat → Option Nat), OP kL_low yL_low 0 [.int (w >>> (nI 13 &&& 31)), .int (nI 10)] d r J (some (.int (nI q9))) d r J := ⟨lw (w >>> (nI 13 &&& 31)) (10), lw_lt _ (by omega), fun d r => A_L_low (by omega) (by omega)⟩
  obtain ⟨b, hbe⟩ : ∃ b, b = (a + 1 + b0) % 8 := ⟨_, rfl⟩
  have hb : b < 8 := by omega
  have hne : a ≠ b := by omega
  have hneI : ¬ nI a = nI b := fun g => hne ((nI_eq (by omega) (by omega)).mp g)
  have K : ∀ x, x < 99 → ∃ d1 r1, SW yL_act cL_act 11 (some .boolean) [] 10 none 200 [some (.ref 0), some (.int v), some (.int w), some (.int (nI s)), some (.int (nI a)), some (.int (nI b)), none, none, none, none, none] [.int (nI x), .int (nI 1)] 65 (W0 d r J) 2 40 (.inl (some (.int (nI 1)))) 65 (W0 d1 r1 J) ∧ LI (D + 1) d1 r1 := by
    intro x hx
    obtain ⟨e1, x1, y1, -⟩ := C_count (J := J) (k := 3) h iv (by decide)
    rw [hmn] at x1
    obtain ⟨e2, x2, y2, -⟩ := C_owed (J := J) (a := a) (b := b) y1 iv ha hb
    obtain ⟨e3, r3, x3, y3, -⟩ := C_promise (J := J) (a := a) (b := b) (s := 1 + x) (y := y) y2 iv ha hb hneI (by omega) (by omega) (by omega)
    have okV2 := ok_mkV iv.1 ha hb hne (s := 1 + x) (y := y) (by omega) (by omega) (by omega)
    have iv3 := IV_push (rc6 y2) iv okV2 (T' := T) (tl' := tl) trivial
    have due2 := due_mkV iv.1 hd (f := nI a) (t := nI b) (s := nI (1 + x)) (y := y) (by omega)
    have dd2 := dd_mkV iv.1 hD (f := nI a) (t := nI b) (s := nI (1 + x)) (y := y) (by omega)
    by_cases c8 : nv V 1 < 8
    · rw [show mkR V = nI (nv V 1) from if_pos c8] at x3
      have eV : mkV V (nI a) (nI b) (nI (1 + x)) (nI y) = mkp V (nI a) (nI b) (nI (1 + x)) (nI y) := if_pos c8
      rw [eV] at y3 iv3 due2 dd2
      obtain ⟨e4, x4, y4, -⟩ := C_owed (J := J) (a := a) (b := b) y3 iv3 ha hb
      rw [owd_mkp iv.1 c8] at x4
      obtain ⟨e5, x5, y5, -⟩ := C_promiseOf (J := J) (q := nv V 1) (k := 3) y4 iv3 (by rw [(mkp_many c8).1]; omega) (by decide)
      have hp5 : pro (mkp V (nI a) (nI b) (nI (1 + x)) (nI y)) (nv V 1) 3 = V 0 + nI y := by
        show mkp V (nI a) (nI b) (nI (1 + x)) (nI y) (51 + (nv V 1 * 4 + 3)) = _
        rw [mkp_at (by decide), if_pos rfl, if_neg (by decide), if_neg (by decide), if_neg (by decide)]
      rw [hp5] at x5
      obtain ⟨e6, x6, y6, -⟩ := C_count (J := J) (k := 0) y5 iv3 (by decide)
      rw [show cnt (mkp V (nI a) (nI b) (nI (1 + x)) (nI y)) (psN n) 0 = V 0 from mkp_off (by decide) (by decide)] at x6
      refine ⟨e6, r3, ?_, ⟨_, _, _, _, _, _, _, y6, iv3, due2, dd_mono dd2 (by omega)⟩⟩
      refine sw_iadd dL_act_200 ?_
      refine sw_topE (v := nI (1 + x)) (nI_add _ _) ?_
      refine sw_istore (i := 6) dL_act_201 (Nat.le_of_ble_eq_true rfl) rfl ?_
      refine sw_lo (lo2 := [some (.ref 0), some (.int _), some (.int _), some (.int _), some (.int _), some (.int _), some (.int _), none, none, none, none]) rfl ?_
      refine sw_iload_n (i := 2) dL_act_203 rfl rfl ?_
      refine sw_bi 13 dL_act_204 (by decide +kernel) ?_
      refine sw_ishr rfl dL_act_206 ?_
      refine sw_bi 10 dL_act_207 (by decide +kernel) ?_
      refine px_Sx ms_L_62 (ly _ _) rfl rfl (Nat.le_of_ble_eq_true rfl) (Nat.le_of_ble_eq_true rfl) (Nat.le_of_ble_eq_true rfl) dL_act_209 ?_
      refine sw_ins (pc2 := 212) rfl rfl ?_
      refine sw_istore (i := 7) dL_act_212 (Nat.le_of_ble_eq_true rfl) rfl ?_
      refine sw_lo (lo2 := [some (.ref 0), some (.int _), some (.int _), some (.int _), some (.int _), some (.int _), some (.int _), some (.int _), none, none, none]) rfl ?_
      refine sw_aload_n (i := 0) dL_act_214 rfl rfl ?_
      refine sw_ic 3 dL_act_215 ?_
      refine px_Vx mv_L_34 x1 rfl rfl (Nat.le_of_ble_eq_true rfl) (Nat.le_of_ble_eq_true rfl) ko_0 (Nat.le_of_ble_eq_true rfl) dL_act_216 ?_
      refine sw_istore (i := 8) dL_act_219 (Nat.le_of_ble_eq_true rfl) rfl ?_
      refine sw_lo (lo2 := [some (.ref 0), some (.int _), some (.int _), some (.int _), some (.int _), some (.int _), some (.int _), some (.int _), some (.int _), none, none]) rfl ?_
      refine sw_aload_n (i := 0) dL_act_221 rfl rfl ?_
      refine sw_iload (i := 4) dL_act_222 rfl ?_
      refine sw_iload (i := 5) dL_act_224 rfl ?_
      refine sw_ins (pc2 := 226) rfl rfl ?_
      refine px_Vx mv_L_27 x2 rfl rfl (Nat.le_of_ble_eq_true rfl) (Nat.le_of_ble_eq_true rfl) ko_0 (Nat.le_of_ble_eq_true rfl) dL_act_226 ?_
      refine sw_istore (i := 9) dL_act_229 (Nat.le_of_ble_eq_true rfl) rfl ?_
      refine sw_lo (lo2 := [some (.ref 0), some (.int _), some (.int _), some (.int _), some (.int _), some (.int _), some (.int _), some (.int _), some (.int _), some (.int _), none]) rfl ?_
      refine sw_aload_n (i := 0) dL_act_231 rfl rfl ?_
      refine sw_iload (i := 4) dL_act_232 rfl ?_
      refine sw_iload (i := 5) dL_act_234 rfl ?_
      refine sw_iload (i := 6) dL_act_236 rfl ?_
      refine sw_iload (i := 7) dL_act_238 rfl ?_
      refine px_Vx mv_L_90 x3 rfl rfl (Nat.le_of_ble_eq_true rfl) (Nat.le_of_ble_eq_true rfl) ko_0 (Nat.le_of_ble_eq_true rfl) dL_act_240 ?_
      refine sw_ins (pc2 := 243) rfl rfl ?_
      refine sw_istore (i := 10) dL_act_243 (Nat.le_of_ble_eq_true rfl) rfl ?_
      refine sw_lo (lo2 := [some (.ref 0), some (.int _), some (.int _), some (.int _), some (.int _), some (.int _), some (.int _), some (.int _), some (.int _), some (.int _), some (.int _)]) rfl ?_
      refine sw_iload (i := 8) dL_act_245 rfl ?_
      refine sw_bi 8 dL_act_247 (by decide +kernel) ?_
      refine sw_ic_ne (tgt := 279) dL_act_249 rfl (fun _ => ?_) (fun h9 => absurd h9 (fun g => absurd ((nI_eq (by omega) (by omega)).mp g) (by omega)))
      refine sw_iload (i := 10) dL_act_279 rfl ?_
      refine sw_iload (i := 8) dL_act_281 rfl ?_
      refine sw_ic_ne (tgt := 324) dL_act_283 rfl (fun h9 => absurd rfl h9) (fun _ => ?_)
      refine sw_aload_n (i := 0) dL_act_286 rfl rfl ?_
      refine sw_ins (pc2 := 287) rfl rfl ?_
      refine sw_iload (i := 4) dL_act_287 rfl ?_
      refine sw_iload (i := 5) dL_act_289 rfl ?_
      refine px_Vx mv_L_27 x4 rfl rfl (Nat.le_of_ble_eq_true rfl) (Nat.le_of_ble_eq_true rfl) ko_0 (Nat.le_of_ble_eq_true rfl) dL_act_291 ?_
      refine sw_iload (i := 9) dL_act_294 rfl ?_
      refine sw_iload (i := 6) dL_act_296 rfl ?_
      refine sw_iadd dL_act_298 ?_
      refine sw_ic_ne (tgt := 324) dL_act_299 rfl (fun h9 => absurd rfl h9) (fun _ => ?_)
      refine sw_aload_n (i := 0) dL_act_302 rfl rfl ?_
      refine sw_ins (pc2 := 303) rfl rfl ?_
      refine sw_iload (i := 8) dL_act_303 rfl ?_
      refine sw_ic 3 dL_act_305 ?_
      refine px_Vx mv_L_41 x5 rfl rfl (Nat.le_of_ble_eq_true rfl) (Nat.le_of_ble_eq_true rfl) ko_0 (Nat.le_of_ble_eq_true rfl) dL_act_306 ?_
      refine sw_aload_n (i := 0) dL_act_309 rfl rfl ?_
      refine sw_ic 0 dL_act_310 ?_
      refine px_Vx mv_L_34 x6 rfl rfl (Nat.le_of_ble_eq_true rfl) (Nat.le_of_ble_eq_true rfl) ko_0 (Nat.le_of_ble_eq_true rfl) dL_act_311 ?_
      refine sw_iload (i := 7) dL_act_314 rfl ?_
      refine sw_iadd dL_act_316 ?_
      refine sw_ins (pc2 := 317) rfl rfl ?_
      refine sw_ic_ne (tgt := 324) dL_act_317 rfl (fun h9 => absurd rfl h9) (fun _ => ?_)
      refine sw_ic 1 dL_act_320 ?_
      refine sw_goto (tgt := 325) dL_act_321 rfl ?_
      exact sw_zreturnE rfl rfl rfl dL_act_325
    · have e8 : nv V 1 = 8 := by omega
      rw [show mkR V = -1 from if_neg c8] at x3
      have eV : mkV V (nI a) (nI b) (nI (1 + x)) (nI y) = rfz V := if_neg c8
      rw [eV] at y3 iv3 due2 dd2
      obtain ⟨e4, x4, y4, -⟩ := C_owed (J := J) (a := a) (b := b) y3 iv3 ha hb
      rw [owd_rfz] at x4
      refine ⟨e4, r3, ?_, ⟨_, _, _, _, _, _, _, y4, iv3, due2, dd_mono dd2 (by omega)⟩⟩
      refine sw_iadd dL_act_200 ?_
      refine sw_topE (v := nI (1 + x)) (nI_add _ _) ?_
      refine sw_istore (i := 6) dL_act_201 (Nat.le_of_ble_eq_true rfl) rfl ?_
      refine sw_lo (lo2 := [some (.ref 0), some (.int _), some (.int _), some (.int _), some (.int _), some (.int _), some (.int _), none, none, none, none]) rfl ?_
      refine sw_iload_n (i := 2) dL_act_203 rfl rfl ?_
      refine sw_bi 13 dL_act_204 (by decide +kernel) ?_
      refine sw_ishr rfl dL_act_206 ?_
      refine sw_bi 10 dL_act_207 (by decide +kernel) ?_
      refine px_Sx ms_L_62 (ly _ _) rfl rfl (Nat.le_of_ble_eq_true rfl) (Nat.le_of_ble_eq_true rfl) (Nat.le_of_ble_eq_true rfl) dL_act_209 ?_
      refine sw_ins (pc2 := 212) rfl rfl ?_
      refine sw_istore (i := 7) dL_act_212 (Nat.le_of_ble_eq_true rfl) rfl ?_
      refine sw_lo (lo2 := [some (.ref 0), some (.int _), some (.int _), some (.int _), some (.int _), some (.int _), some (.int _), some (.int _), none, none, none]) rfl ?_
      refine sw_aload_n (i := 0) dL_act_214 rfl rfl ?_
      refine sw_ic 3 dL_act_215 ?_
      refine px_Vx mv_L_34 x1 rfl rfl (Nat.le_of_ble_eq_true rfl) (Nat.le_of_ble_eq_true rfl) ko_0 (Nat.le_of_ble_eq_true rfl) dL_act_216 ?_
      refine sw_istore (i := 8) dL_act_219 (Nat.le_of_ble_eq_true rfl) rfl ?_
      refine sw_lo (lo2 := [some (.ref 0), some (.int _), some (.int _), some (.int _), some (.int _), some (.int _), some (.int _), some (.int _), some (.int _), none, none]) rfl ?_
      refine sw_aload_n (i := 0) dL_act_221 rfl rfl ?_
      refine sw_iload (i := 4) dL_act_222 rfl ?_
      refine sw_iload (i := 5) dL_act_224 rfl ?_
      refine sw_ins (pc2 := 226) rfl rfl ?_
      refine px_Vx mv_L_27 x2 rfl rfl (Nat.le_of_ble_eq_true rfl) (Nat.le_of_ble_eq_true rfl) ko_0 (Nat.le_of_ble_eq_true rfl) dL_act_226 ?_
      refine sw_istore (i := 9) dL_act_229 (Nat.le_of_ble_eq_true rfl) rfl ?_
      refine sw_lo (lo2 := [some (.ref 0), some (.int _), some (.int _), some (.int _), some (.int _), some (.int _), some (.int _), some (.int _), some (.int _), some (.int _), none]) rfl ?_
      refine sw_aload_n (i := 0) dL_act_231 rfl rfl ?_
      refine sw_iload (i := 4) dL_act_232 rfl ?_
      refine sw_iload (i := 5) dL_act_234 rfl ?_
      refine sw_iload (i := 6) dL_act_236 rfl ?_
      refine sw_iload (i := 7) dL_act_238 rfl ?_
      refine px_Vx mv_L_90 x3 rfl rfl (Nat.le_of_ble_eq_true rfl) (Nat.le_of_ble_eq_true rfl) ko_0 (Nat.le_of_ble_eq_true rfl) dL_act_240 ?_
      refine sw_ins (pc2 := 243) rfl rfl ?_
      refine sw_istore (i := 10) dL_act_243 (Nat.le_of_ble_eq_true rfl) rfl ?_
      refine sw_lo (lo2 := [some (.ref 0), some (.int _), some (.int _), some (.int _), some (.int _), some (.int _), some (.int _), some (.int _), some (.int _), some (.int _), some (.int _)]) rfl ?_
      refine sw_iload (i := 8) dL_act_245 rfl ?_
      refine sw_bi 8 dL_act_247 (by decide +kernel) ?_
      refine sw_ic_ne (tgt := 279) dL_act_249 rfl (fun h9 => absurd (by rw [e8]) h9) (fun _ => ?_)
      refine sw_iload (i := 10) dL_act_252 rfl ?_
      refine sw_im1 dL_act_254 ?_
      refine sw_ic_ne (tgt := 275) dL_act_255 rfl (fun h9 => absurd (by decide) h9) (fun _ => ?_)
      refine sw_aload_n (i := 0) dL_act_258 rfl rfl ?_
      refine sw_ins (pc2 := 259) rfl rfl ?_
      refine sw_iload (i := 4) dL_act_259 rfl ?_
      refine sw_iload (i := 5) dL_act_261 rfl ?_
      refine px_Vx mv_L_27 x4 rfl rfl (Nat.le_of_ble_eq_true rfl) (Nat.le_of_ble_eq_true rfl) ko_0 (Nat.le_of_ble_eq_true rfl) dL_act_263 ?_
      refine sw_iload (i := 9) dL_act_266 rfl ?_
      refine sw_ic_ne (tgt := 275) dL_act_268 rfl (fun h9 => absurd rfl h9) (fun _ => ?_)
      refine sw_ic 1 dL_act_271 ?_
      refine sw_goto (tgt := 325) dL_act_272 rfl ?_
      exact sw_zreturnE rfl rfl rfl dL_act_325
  by_cases hk : k20 = 0
  · subst hk
    obtain ⟨x, hx, lx⟩ : ∃ q9, q9 < 99 ∧ ∀ (d : Nat → Nat → Int32) (r : Nat → Nat → Option Nat), OP kL_low yL_low 0 [.int (w >>> (nI 6 &&& 31)), .int (nI 99)] d r J (some (.int (nI q9))) d r J := ⟨lw (w >>> (nI 6 &&& 31)) (99), lw_lt _ (by omega), fun d r => A_L_low (by omega) (by omega)⟩
    obtain ⟨d1, r1, z1, z2⟩ := K x (by omega)
    refine ⟨d1, r1, am_of pl_L_act (Nat.le_of_ble_eq_true rfl) ?_, z2⟩
    refine sw_iload_n (i := 1) dL_act_0 rfl rfl ?_
    refine sw_bi 20 dL_act_1 (by decide +kernel) ?_
    refine px_Sx ms_L_62 (ls _ _) rfl rfl (Nat.le_of_ble_eq_true rfl) (Nat.le_of_ble_eq_true rfl) (Nat.le_of_ble_eq_true rfl) dL_act_3 ?_
    refine sw_istore_n (i := 3) dL_act_6 rfl (Nat.le_of_ble_eq_true rfl) rfl ?_
    refine sw_lo (lo2 := [some (.ref 0), some (.int _), some (.int _), some (.int _), none, none, none, none, none, none, none]) rfl ?_
    refine sw_iload_n (i := 3) dL_act_7 rfl rfl ?_
    refine sw_ic 3 dL_act_8 ?_
    refine sw_ic_ge (tgt := 17) dL_act_9 rfl (fun _ => ?_) (fun h9 => absurd (nI_le (by omega) (by omega)) h9)
    refine sw_ins (pc2 := 17) rfl rfl ?_
    refine sw_iload_n (i := 3) dL_act_17 rfl rfl ?_
    refine sw_ic 5 dL_act_18 ?_
    refine sw_ic_ge (tgt := 130) dL_act_19 rfl (fun _ => ?_) (fun h9 => absurd (nI_le (by omega) (by omega)) h9)
    refine sw_iload_n (i := 3) dL_act_130 rfl rfl ?_
    refine sw_bi 9 dL_act_131 (by decide +kernel) ?_
    refine sw_ic_ge (tgt := 142) dL_act_133 rfl (fun _ => ?_) (fun h9 => absurd (nI_le (by omega) (by omega)) h9)
    refine sw_iload_n (i := 3) dL_act_142 rfl rfl ?_
    refine sw_bi 14 dL_act_143 (by decide +kernel) ?_
    refine sw_ins (pc2 := 145) rfl rfl ?_
    refine sw_ic_ge (tgt := 326) dL_act_145 rfl (fun h9 => absurd h9 (nI_ge (by omega) (by omega))) (fun _ => ?_)
    refine sw_iload_n (i := 2) dL_act_148 rfl rfl ?_
    refine sw_bi 8 dL_act_149 (by decide +kernel) ?_
    refine px_Sx ms_L_62 (la _ _) rfl rfl (Nat.le_of_ble_eq_true rfl) (Nat.le_of_ble_eq_true rfl) (Nat.le_of_ble_eq_true rfl) dL_act_151 ?_
    refine sw_istore (i := 4) dL_act_154 (Nat.le_of_ble_eq_true rfl) rfl ?_
    refine sw_lo (lo2 := [some (.ref 0), some (.int _), some (.int _), some (.int _), some (.int _), none, none, none, none, none, none]) rfl ?_
    refine sw_iload (i := 4) dL_act_156 rfl ?_
    refine sw_ic 1 dL_act_158 ?_
    refine sw_iadd dL_act_159 ?_
    refine sw_ins (pc2 := 160) rfl rfl ?_
    refine sw_iload_n (i := 2) dL_act_160 rfl rfl ?_
    refine sw_ic 3 dL_act_161 ?_
    refine sw_ishr rfl dL_act_162 ?_
    refine sw_bi 7 dL_act_163 (by decide +kernel) ?_
    refine px_Sx ms_L_62 (lb0 _ _) rfl rfl (Nat.le_of_ble_eq_true rfl) (Nat.le_of_ble_eq_true rfl) (Nat.le_of_ble_eq_true rfl) dL_act_165 ?_
    refine sw_iadd dL_act_168 ?_
    refine sw_bi 8 dL_act_169 (by decide +kernel) ?_
    refine sw_irem (by decide) dL_act_171 ?_
    refine sw_topE (v := nI b) (by rw [nI_add, nI_add, pk_rem (by omega) (by decide) (by decide), hbe]) ?_
    refine sw_ins (pc2 := 172) rfl rfl ?_
    refine sw_istore (i := 5) dL_act_172 (Nat.le_of_ble_eq_true rfl) rfl ?_
    refine sw_lo (lo2 := [some (.ref 0), some (.int _), some (.int _), some (.int _), some (.int _), some (.int _), none, none, none, none, none]) rfl ?_
    refine sw_ic 1 dL_act_174 ?_
    refine sw_iload_n (i := 2) dL_act_175 rfl rfl ?_
    refine sw_bi 6 dL_act_176 (by decide +kernel) ?_
    refine sw_ishr rfl dL_act_178 ?_
    refine sw_iload_n (i := 2) dL_act_179 rfl rfl ?_
    refine sw_bi 20 dL_act_180 (by decide +kernel) ?_
    refine sw_ishr rfl dL_act_182 ?_
    refine sw_ins (pc2 := 183) rfl rfl ?_
    refine sw_ic 3 dL_act_183 ?_
    refine px_Sx ms_L_62 (lk20 _ _) rfl rfl (Nat.le_of_ble_eq_true rfl) (Nat.le_of_ble_eq_true rfl) (Nat.le_of_ble_eq_true rfl) dL_act_184 ?_
    refine sw_if_ne (tgt := 195) dL_act_187 rfl (fun h9 => absurd (by decide) h9) (fun _ => ?_)
    refine sw_bi 99 dL_act_190 (by decide +kernel) ?_
    refine sw_goto (tgt := 197) dL_act_192 rfl ?_
    refine px_Sx ms_L_62 (lx _ _) rfl rfl (Nat.le_of_ble_eq_true rfl) (Nat.le_of_ble_eq_true rfl) (Nat.le_of_ble_eq_true rfl) dL_act_197 ?_
    exact z1
  · obtain ⟨x, hx, lx⟩ : ∃ q9, q9 < 25 ∧ ∀ (d : Nat → Nat → Int32) (r : Nat → Nat → Option Nat), OP kL_low yL_low 0 [.int (w >>> (nI 6 &&& 31)), .int (nI 25)] d r J (some (.int (nI q9))) d r J := ⟨lw (w >>> (nI 6 &&& 31)) (25), lw_lt _ (by omega), fun d r => A_L_low (by omega) (by omega)⟩
    obtain ⟨d1, r1, z1, z2⟩ := K x (by omega)
    refine ⟨d1, r1, am_of pl_L_act (Nat.le_of_ble_eq_true rfl) ?_, z2⟩
    refine sw_iload_n (i := 1) dL_act_0 rfl rfl ?_
    refine sw_bi 20 dL_act_1 (by decide +kernel) ?_
    refine px_Sx ms_L_62 (ls _ _) rfl rfl (Nat.le_of_ble_eq_true rfl) (Nat.le_of_ble_eq_true rfl) (Nat.le_of_ble_eq_true rfl) dL_act_3 ?_
    refine sw_istore_n (i := 3) dL_act_6 rfl (Nat.le_of_ble_eq_true rfl) rfl ?_
    refine sw_lo (lo2 := [some (.ref 0), some (.int _), some (.int _), some (.int _), none, none, none, none, none, none, none]) rfl ?_
    refine sw_iload_n (i := 3) dL_act_7 rfl rfl ?_
    refine sw_ic 3 dL_act_8 ?_
    refine sw_ic_ge (tgt := 17) dL_act_9 rfl (fun _ => ?_) (fun h9 => absurd (nI_le (by omega) (by omega)) h9)
    refine sw_ins (pc2 := 17) rfl rfl ?_
    refine sw_iload_n (i := 3) dL_act_17 rfl rfl ?_
    refine sw_ic 5 dL_act_18 ?_
    refine sw_ic_ge (tgt := 130) dL_act_19 rfl (fun _ => ?_) (fun h9 => absurd (nI_le (by omega) (by omega)) h9)
    refine sw_iload_n (i := 3) dL_act_130 rfl rfl ?_
    refine sw_bi 9 dL_act_131 (by decide +kernel) ?_
    refine sw_ic_ge (tgt := 142) dL_act_133 rfl (fun _ => ?_) (fun h9 => absurd (nI_le (by omega) (by omega)) h9)
    refine sw_iload_n (i := 3) dL_act_142 rfl rfl ?_
    refine sw_bi 14 dL_act_143 (by decide +kernel) ?_
    refine sw_ins (pc2 := 145) rfl rfl ?_
    refine sw_ic_ge (tgt := 326) dL_act_145 rfl (fun h9 => absurd h9 (nI_ge (by omega) (by omega))) (fun _ => ?_)
    refine sw_iload_n (i := 2) dL_act_148 rfl rfl ?_
    refine sw_bi 8 dL_act_149 (by decide +kernel) ?_
    refine px_Sx ms_L_62 (la _ _) rfl rfl (Nat.le_of_ble_eq_true rfl) (Nat.le_of_ble_eq_true rfl) (Nat.le_of_ble_eq_true rfl) dL_act_151 ?_
    refine sw_istore (i := 4) dL_act_154 (Nat.le_of_ble_eq_true rfl) rfl ?_
    refine sw_lo (lo2 := [some (.ref 0), some (.int _), some (.int _), some (.int _), some (.int _), none, none, none, none, none, none]) rfl ?_
    refine sw_iload (i := 4) dL_act_156 rfl ?_
    refine sw_ic 1 dL_act_158 ?_
    refine sw_iadd dL_act_159 ?_
    refine sw_ins (pc2 := 160) rfl rfl ?_
    refine sw_iload_n (i := 2) dL_act_160 rfl rfl ?_
    refine sw_ic 3 dL_act_161 ?_
    refine sw_ishr rfl dL_act_162 ?_
    refine sw_bi 7 dL_act_163 (by decide +kernel) ?_
    refine px_Sx ms_L_62 (lb0 _ _) rfl rfl (Nat.le_of_ble_eq_true rfl) (Nat.le_of_ble_eq_true rfl) (Nat.le_of_ble_eq_true rfl) dL_act_165 ?_
    refine sw_iadd dL_act_168 ?_
    refine sw_bi 8 dL_act_169 (by decide +kernel) ?_
    refine sw_irem (by decide) dL_act_171 ?_
    refine sw_topE (v := nI b) (by rw [nI_add, nI_add, pk_rem (by omega) (by decide) (by decide), hbe]) ?_
    refine sw_ins (pc2 := 172) rfl rfl ?_
    refine sw_istore (i := 5) dL_act_172 (Nat.le_of_ble_eq_true rfl) rfl ?_
    refine sw_lo (lo2 := [some (.ref 0), some (.int _), some (.int _), some (.int _), some (.int _), some (.int _), none, none, none, none, none]) rfl ?_
    refine sw_ic 1 dL_act_174 ?_
    refine sw_iload_n (i := 2) dL_act_175 rfl rfl ?_
    refine sw_bi 6 dL_act_176 (by decide +kernel) ?_
    refine sw_ishr rfl dL_act_178 ?_
    refine sw_iload_n (i := 2) dL_act_179 rfl rfl ?_
    refine sw_bi 20 dL_act_180 (by decide +kernel) ?_
    refine sw_ishr rfl dL_act_182 ?_
    refine sw_ins (pc2 := 183) rfl rfl ?_
    refine sw_ic 3 dL_act_183 ?_
    refine px_Sx ms_L_62 (lk20 _ _) rfl rfl (Nat.le_of_ble_eq_true rfl) (Nat.le_of_ble_eq_true rfl) (Nat.le_of_ble_eq_true rfl) dL_act_184 ?_
    refine sw_if_ne (tgt := 195) dL_act_187 rfl (fun _ => ?_) (fun h9 => absurd h9 (nI_ne0 (by omega) (by omega)))
    refine sw_bi 25 dL_act_195 (by decide +kernel) ?_
    refine px_Sx ms_L_62 (lx _ _) rfl rfl (Nat.le_of_ble_eq_true rfl) (Nat.le_of_ble_eq_true rfl) (Nat.le_of_ble_eq_true rfl) dL_act_197 ?_
    exact z1
set_option maxRecDepth 100000 in
set_option maxHeartbeats 4000000 in
theorem act_fulfils {d : Nat → Nat → Int32} {r : Nat → Nat → Option Nat} {J : Nat → Nat → Int64} {D : Nat} {v w : Int32} (g : LI D d r) (hD9 : D ≤ 100) {s : Nat} (hs1 : 14 ≤ s) (hs2 : s < 16) (ls : ∀ (d : Nat → Nat → Int32) (r : Nat → Nat → Option Nat), OP kL_low yL_low 0 [.int v, .int (nI 20)] d r J (some (.int (nI s))) d r J) : ∃ d1 r1, OB kL_act yL_act 10 [.ref 0, .int v, .int w] d r J (some (.int (nI 1))) d1 r1 J 2 40 ∧ LI (D + 1) d1 r1 := by
  obtain ⟨V, n, H, S, t, T, tl, h, iv, hd, hD⟩ := g
  obtain ⟨okP, okM, okT9, okC, okW, okD⟩ := id iv.1
  have hm8 := okM.2
  have hmn : ∀ n, cnt V n 3 = nI (nv V 1) := fun _ => okM.1
  obtain ⟨e1, x1, y1, -⟩ := C_count (J := J) (k := 3) h iv (by decide)
  rw [hmn] at x1
  by_cases hz : nv V 1 = 0
  · refine ⟨e1, r, am_of pl_L_act (Nat.le_of_ble_eq_true rfl) ?_, ?_⟩
    ·
      refine sw_iload_n (i := 1) dL_act_0 rfl rfl ?_
      refine sw_bi 20 dL_act_1 (by decide +kernel) ?_
      refine px_Sx ms_L_62 (ls _ _) rfl rfl (Nat.le_of_ble_eq_true rfl) (Nat.le_of_ble_eq_true rfl) (Nat.le_of_ble_eq_true rfl) dL_act_3 ?_
      refine sw_istore_n (i := 3) dL_act_6 rfl (Nat.le_of_ble_eq_true rfl) rfl ?_
      refine sw_lo (lo2 := [some (.ref 0), some (.int _), some (.int _), some (.int _), none, none, none, none, none, none, none]) rfl ?_
      refine sw_iload_n (i := 3) dL_act_7 rfl rfl ?_
      refine sw_ic 3 dL_act_8 ?_
      refine sw_ic_ge (tgt := 17) dL_act_9 rfl (fun _ => ?_) (fun h9 => absurd (nI_le (by omega) (by omega)) h9)
      refine sw_ins (pc2 := 17) rfl rfl ?_
      refine sw_iload_n (i := 3) dL_act_17 rfl rfl ?_
      refine sw_ic 5 dL_act_18 ?_
      refine sw_ic_ge (tgt := 130) dL_act_19 rfl (fun _ => ?_) (fun h9 => absurd (nI_le (by omega) (by omega)) h9)
      refine sw_iload_n (i := 3) dL_act_130 rfl rfl ?_
      refine sw_bi 9 dL_act_131 (by decide +kernel) ?_
      refine sw_ic_ge (tgt := 142) dL_act_133 rfl (fun _ => ?_) (fun h9 => absurd (nI_le (by omega) (by omega)) h9)
      refine sw_iload_n (i := 3) dL_act_142 rfl rfl ?_
      refine sw_bi 14 dL_act_143 (by decide +kernel) ?_
      refine sw_ins (pc2 := 145) rfl rfl ?_
      refine sw_ic_ge (tgt := 326) dL_act_145 rfl (fun _ => ?_) (fun h9 => absurd (nI_le (by omega) (by omega)) h9)
      refine sw_iload_n (i := 3) dL_act_326 rfl rfl ?_
      refine sw_bi 16 dL_act_327 (by decide +kernel) ?_
      refine sw_ic_ge (tgt := 362) dL_act_329 rfl (fun h9 => absurd h9 (nI_ge (by omega) (by omega))) (fun _ => ?_)
      refine sw_aload_n (i := 0) dL_act_332 rfl rfl ?_
      refine sw_ic 3 dL_act_333 ?_
      refine px_Vx mv_L_34 x1 rfl rfl (Nat.le_of_ble_eq_true rfl) (Nat.le_of_ble_eq_true rfl) ko_0 (Nat.le_of_ble_eq_true rfl) dL_act_334 ?_
      refine sw_if_eq (tgt := 356) dL_act_337 rfl (fun _ => ?_) (fun h9 => absurd (by rw [hz]; rfl) h9)
      refine sw_ins (pc2 := 356) rfl rfl ?_
      refine sw_ic 1 dL_act_356 ?_
      refine sw_goto (tgt := 361) dL_act_357 rfl ?_
      exact sw_zreturnE rfl rfl rfl dL_act_361
    · exact ⟨_, _, _, _, _, _, _, y1, iv, hd, dd_mono hD (by omega)⟩
  · obtain ⟨e2, x2, y2, -⟩ := C_count (J := J) (k := 3) y1 iv (by decide)
    rw [hmn] at x2
    obtain ⟨q, hq, lq⟩ : ∃ q9, q9 < nv V 1 ∧ ∀ (d : Nat → Nat → Int32) (r : Nat → Nat → Option Nat), OP kL_low yL_low 0 [.int (w), .int (nI (nv V 1))] d r J (some (.int (nI q9))) d r J := ⟨lw (w) (nv V 1), lw_lt _ (by omega), fun d r => A_L_low (by omega) (by omega)⟩
    obtain ⟨d1, r1, z1, z2⟩ := A_L_fulfils (J := J) y2 iv hd hD (by omega) hq
    refine ⟨d1, r1, am_of pl_L_act (Nat.le_of_ble_eq_true rfl) ?_, ?_⟩
    ·
      refine sw_iload_n (i := 1) dL_act_0 rfl rfl ?_
      refine sw_bi 20 dL_act_1 (by decide +kernel) ?_
      refine px_Sx ms_L_62 (ls _ _) rfl rfl (Nat.le_of_ble_eq_true rfl) (Nat.le_of_ble_eq_true rfl) (Nat.le_of_ble_eq_true rfl) dL_act_3 ?_
      refine sw_istore_n (i := 3) dL_act_6 rfl (Nat.le_of_ble_eq_true rfl) rfl ?_
      refine sw_lo (lo2 := [some (.ref 0), some (.int _), some (.int _), some (.int _), none, none, none, none, none, none, none]) rfl ?_
      refine sw_iload_n (i := 3) dL_act_7 rfl rfl ?_
      refine sw_ic 3 dL_act_8 ?_
      refine sw_ic_ge (tgt := 17) dL_act_9 rfl (fun _ => ?_) (fun h9 => absurd (nI_le (by omega) (by omega)) h9)
      refine sw_ins (pc2 := 17) rfl rfl ?_
      refine sw_iload_n (i := 3) dL_act_17 rfl rfl ?_
      refine sw_ic 5 dL_act_18 ?_
      refine sw_ic_ge (tgt := 130) dL_act_19 rfl (fun _ => ?_) (fun h9 => absurd (nI_le (by omega) (by omega)) h9)
      refine sw_iload_n (i := 3) dL_act_130 rfl rfl ?_
      refine sw_bi 9 dL_act_131 (by decide +kernel) ?_
      refine sw_ic_ge (tgt := 142) dL_act_133 rfl (fun _ => ?_) (fun h9 => absurd (nI_le (by omega) (by omega)) h9)
      refine sw_iload_n (i := 3) dL_act_142 rfl rfl ?_
      refine sw_bi 14 dL_act_143 (by decide +kernel) ?_
      refine sw_ins (pc2 := 145) rfl rfl ?_
      refine sw_ic_ge (tgt := 326) dL_act_145 rfl (fun _ => ?_) (fun h9 => absurd (nI_le (by omega) (by omega)) h9)
      refine sw_iload_n (i := 3) dL_act_326 rfl rfl ?_
      refine sw_bi 16 dL_act_327 (by decide +kernel) ?_
      refine sw_ic_ge (tgt := 362) dL_act_329 rfl (fun h9 => absurd h9 (nI_ge (by omega) (by omega))) (fun _ => ?_)
      refine sw_aload_n (i := 0) dL_act_332 rfl rfl ?_
      refine sw_ic 3 dL_act_333 ?_
      refine px_Vx mv_L_34 x1 rfl rfl (Nat.le_of_ble_eq_true rfl) (Nat.le_of_ble_eq_true rfl) ko_0 (Nat.le_of_ble_eq_true rfl) dL_act_334 ?_
      refine sw_if_eq (tgt := 356) dL_act_337 rfl (fun h9 => absurd h9 (nI_ne0 (by omega) (by omega))) (fun _ => ?_)
      refine sw_ins (pc2 := 340) rfl rfl ?_
      refine sw_aload_n (i := 0) dL_act_340 rfl rfl ?_
      refine sw_iload_n (i := 2) dL_act_341 rfl rfl ?_
      refine sw_aload_n (i := 0) dL_act_342 rfl rfl ?_
      refine sw_ic 3 dL_act_343 ?_
      refine px_Vx mv_L_34 x2 rfl rfl (Nat.le_of_ble_eq_true rfl) (Nat.le_of_ble_eq_true rfl) ko_0 (Nat.le_of_ble_eq_true rfl) dL_act_344 ?_
      refine px_Sx ms_L_62 (lq _ _) rfl rfl (Nat.le_of_ble_eq_true rfl) (Nat.le_of_ble_eq_true rfl) (Nat.le_of_ble_eq_true rfl) dL_act_347 ?_
      refine px_SB2 (k2 := 2) (n2 := 40) ms_L_94 z1 (by omega) (by omega) rfl rfl (Nat.le_of_ble_eq_true rfl) (Nat.le_of_ble_eq_true rfl) (Nat.le_of_ble_eq_true rfl) dL_act_350 ?_
      refine sw_if_eq (tgt := 360) dL_act_353 rfl (fun h9 => absurd h9 (by decide)) (fun _ => ?_)
      refine sw_ins (pc2 := 356) rfl rfl ?_
      refine sw_ic 1 dL_act_356 ?_
      refine sw_goto (tgt := 361) dL_act_357 rfl ?_
      exact sw_zreturnE rfl rfl rfl dL_act_361
    · obtain ⟨V9, n9, H9, S9, t9, T9, tl9, g1, g2, g3, g4⟩ := z2
      exact ⟨V9, n9, H9, S9, t9, T9, tl9, g1, g2, g3, dd_mono g4 (by omega)⟩
set_option maxRecDepth 100000 in
set_option maxHeartbeats 4000000 in
theorem act_waits {d : Nat → Nat → Int32} {r : Nat → Nat → Option Nat} {J : Nat → Nat → Int64} {D : Nat} {v w : Int32} (g : LI D d r) (hD9 : D ≤ 100) {s : Nat} (hs1 : 16 ≤ s) (hs2 : s < 17) (ls : ∀ (d : Nat → Nat → Int32) (r : Nat → Nat → Option Nat), OP kL_low yL_low 0 [.int v, .int (nI 20)] d r J (some (.int (nI s))) d r J) : ∃ d1 r1, OB kL_act yL_act 10 [.ref 0, .int v, .int w] d r J (some (.int (nI 1))) d1 r1 J 2 40 ∧ LI (D + 1) d1 r1 := by
  obtain ⟨V, n, H, S, t, T, tl, h, iv, hd, hD⟩ := g
  obtain ⟨okP, okM, okT9, okC, okW, okD⟩ := id iv.1
  have hm8 := okM.2
  have hmn : ∀ n, cnt V n 3 = nI (nv V 1) := fun _ => okM.1
  obtain ⟨e1, x1, y1, -⟩ := C_count (J := J) (k := 3) h iv (by decide)
  rw [hmn] at x1
  by_cases hz : nv V 1 = 0
  · refine ⟨e1, r, am_of pl_L_act (Nat.le_of_ble_eq_true rfl) ?_, ?_⟩
    ·
      refine sw_iload_n (i := 1) dL_act_0 rfl rfl ?_
      refine sw_bi 20 dL_act_1 (by decide +kernel) ?_
      refine px_Sx ms_L_62 (ls _ _) rfl rfl (Nat.le_of_ble_eq_true rfl) (Nat.le_of_ble_eq_true rfl) (Nat.le_of_ble_eq_true rfl) dL_act_3 ?_
      refine sw_istore_n (i := 3) dL_act_6 rfl (Nat.le_of_ble_eq_true rfl) rfl ?_
      refine sw_lo (lo2 := [some (.ref 0), some (.int _), some (.int _), some (.int _), none, none, none, none, none, none, none]) rfl ?_
      refine sw_iload_n (i := 3) dL_act_7 rfl rfl ?_
      refine sw_ic 3 dL_act_8 ?_
      refine sw_ic_ge (tgt := 17) dL_act_9 rfl (fun _ => ?_) (fun h9 => absurd (nI_le (by omega) (by omega)) h9)
      refine sw_ins (pc2 := 17) rfl rfl ?_
      refine sw_iload_n (i := 3) dL_act_17 rfl rfl ?_
      refine sw_ic 5 dL_act_18 ?_
      refine sw_ic_ge (tgt := 130) dL_act_19 rfl (fun _ => ?_) (fun h9 => absurd (nI_le (by omega) (by omega)) h9)
      refine sw_iload_n (i := 3) dL_act_130 rfl rfl ?_
      refine sw_bi 9 dL_act_131 (by decide +kernel) ?_
      refine sw_ic_ge (tgt := 142) dL_act_133 rfl (fun _ => ?_) (fun h9 => absurd (nI_le (by omega) (by omega)) h9)
      refine sw_iload_n (i := 3) dL_act_142 rfl rfl ?_
      refine sw_bi 14 dL_act_143 (by decide +kernel) ?_
      refine sw_ins (pc2 := 145) rfl rfl ?_
      refine sw_ic_ge (tgt := 326) dL_act_145 rfl (fun _ => ?_) (fun h9 => absurd (nI_le (by omega) (by omega)) h9)
      refine sw_iload_n (i := 3) dL_act_326 rfl rfl ?_
      refine sw_bi 16 dL_act_327 (by decide +kernel) ?_
      refine sw_ic_ge (tgt := 362) dL_act_329 rfl (fun _ => ?_) (fun h9 => absurd (nI_le (by omega) (by omega)) h9)
      refine sw_iload_n (i := 3) dL_act_362 rfl rfl ?_
      refine sw_bi 16 dL_act_363 (by decide +kernel) ?_
      refine sw_ic_ne (tgt := 398) dL_act_365 rfl (fun h9 => absurd (by rw [show s = 16 by omega]) h9) (fun _ => ?_)
      refine sw_aload_n (i := 0) dL_act_368 rfl rfl ?_
      refine sw_ins (pc2 := 369) rfl rfl ?_
      refine sw_ic 3 dL_act_369 ?_
      refine px_Vx mv_L_34 x1 rfl rfl (Nat.le_of_ble_eq_true rfl) (Nat.le_of_ble_eq_true rfl) ko_0 (Nat.le_of_ble_eq_true rfl) dL_act_370 ?_
      refine sw_if_eq (tgt := 392) dL_act_373 rfl (fun _ => ?_) (fun h9 => absurd (by rw [hz]; rfl) h9)
      refine sw_ic 1 dL_act_392 ?_
      refine sw_goto (tgt := 397) dL_act_393 rfl ?_
      exact sw_zreturnE rfl rfl rfl dL_act_397
    · exact ⟨_, _, _, _, _, _, _, y1, iv, hd, dd_mono hD (by omega)⟩
  · obtain ⟨e2, x2, y2, -⟩ := C_count (J := J) (k := 3) y1 iv (by decide)
    rw [hmn] at x2
    obtain ⟨q, hq, lq⟩ : ∃ q9, q9 < nv V 1 ∧ ∀ (d : Nat → Nat → Int32) (r : Nat → Nat → Option Nat), OP kL_low yL_low 0 [.int (w), .int (nI (nv V 1))] d r J (some (.int (nI q9))) d r J := ⟨lw (w) (nv V 1), lw_lt _ (by omega), fun d r => A_L_low (by omega) (by omega)⟩
    obtain ⟨d1, r1, z1, z2⟩ := A_L_waits (J := J) y2 iv hd hD (by omega) hq
    refine ⟨d1, r1, am_of pl_L_act (Nat.le_of_ble_eq_true rfl) ?_, ?_⟩
    ·
      refine sw_iload_n (i := 1) dL_act_0 rfl rfl ?_
      refine sw_bi 20 dL_act_1 (by decide +kernel) ?_
      refine px_Sx ms_L_62 (ls _ _) rfl rfl (Nat.le_of_ble_eq_true rfl) (Nat.le_of_ble_eq_true rfl) (Nat.le_of_ble_eq_true rfl) dL_act_3 ?_
      refine sw_istore_n (i := 3) dL_act_6 rfl (Nat.le_of_ble_eq_true rfl) rfl ?_
      refine sw_lo (lo2 := [some (.ref 0), some (.int _), some (.int _), some (.int _), none, none, none, none, none, none, none]) rfl ?_
      refine sw_iload_n (i := 3) dL_act_7 rfl rfl ?_
      refine sw_ic 3 dL_act_8 ?_
      refine sw_ic_ge (tgt := 17) dL_act_9 rfl (fun _ => ?_) (fun h9 => absurd (nI_le (by omega) (by omega)) h9)
      refine sw_ins (pc2 := 17) rfl rfl ?_
      refine sw_iload_n (i := 3) dL_act_17 rfl rfl ?_
      refine sw_ic 5 dL_act_18 ?_
      refine sw_ic_ge (tgt := 130) dL_act_19 rfl (fun _ => ?_) (fun h9 => absurd (nI_le (by omega) (by omega)) h9)
      refine sw_iload_n (i := 3) dL_act_130 rfl rfl ?_
      refine sw_bi 9 dL_act_131 (by decide +kernel) ?_
      refine sw_ic_ge (tgt := 142) dL_act_133 rfl (fun _ => ?_) (fun h9 => absurd (nI_le (by omega) (by omega)) h9)
      refine sw_iload_n (i := 3) dL_act_142 rfl rfl ?_
      refine sw_bi 14 dL_act_143 (by decide +kernel) ?_
      refine sw_ins (pc2 := 145) rfl rfl ?_
      refine sw_ic_ge (tgt := 326) dL_act_145 rfl (fun _ => ?_) (fun h9 => absurd (nI_le (by omega) (by omega)) h9)
      refine sw_iload_n (i := 3) dL_act_326 rfl rfl ?_
      refine sw_bi 16 dL_act_327 (by decide +kernel) ?_
      refine sw_ic_ge (tgt := 362) dL_act_329 rfl (fun _ => ?_) (fun h9 => absurd (nI_le (by omega) (by omega)) h9)
      refine sw_iload_n (i := 3) dL_act_362 rfl rfl ?_
      refine sw_bi 16 dL_act_363 (by decide +kernel) ?_
      refine sw_ic_ne (tgt := 398) dL_act_365 rfl (fun h9 => absurd (by rw [show s = 16 by omega]) h9) (fun _ => ?_)
      refine sw_aload_n (i := 0) dL_act_368 rfl rfl ?_
      refine sw_ins (pc2 := 369) rfl rfl ?_
      refine sw_ic 3 dL_act_369 ?_
      refine px_Vx mv_L_34 x1 rfl rfl (Nat.le_of_ble_eq_true rfl) (Nat.le_of_ble_eq_true rfl) ko_0 (Nat.le_of_ble_eq_true rfl) dL_act_370 ?_
      refine sw_if_eq (tgt := 392) dL_act_373 rfl (fun h9 => absurd h9 (nI_ne0 (by omega) (by omega))) (fun _ => ?_)
      refine sw_aload_n (i := 0) dL_act_376 rfl rfl ?_
      refine sw_iload_n (i := 2) dL_act_377 rfl rfl ?_
      refine sw_aload_n (i := 0) dL_act_378 rfl rfl ?_
      refine sw_ic 3 dL_act_379 ?_
      refine px_Vx mv_L_34 x2 rfl rfl (Nat.le_of_ble_eq_true rfl) (Nat.le_of_ble_eq_true rfl) ko_0 (Nat.le_of_ble_eq_true rfl) dL_act_380 ?_
      refine sw_ins (pc2 := 383) rfl rfl ?_
      refine px_Sx ms_L_62 (lq _ _) rfl rfl (Nat.le_of_ble_eq_true rfl) (Nat.le_of_ble_eq_true rfl) (Nat.le_of_ble_eq_true rfl) dL_act_383 ?_
      refine px_SB (k2 := 2) (n2 := 40) ms_L_97 z1 (by omega) (by omega) rfl rfl (Nat.le_of_ble_eq_true rfl) (Nat.le_of_ble_eq_true rfl) (Nat.le_of_ble_eq_true rfl) dL_act_386 ?_
      refine sw_if_eq (tgt := 396) dL_act_389 rfl (fun h9 => absurd h9 (by decide)) (fun _ => ?_)
      refine sw_ic 1 dL_act_392 ?_
      refine sw_goto (tgt := 397) dL_act_393 rfl ?_
      exact sw_zreturnE rfl rfl rfl dL_act_397
    · obtain ⟨V9, n9, H9, S9, t9, T9, tl9, g1, g2, g3, g4⟩ := z2
      exact ⟨V9, n9, H9, S9, t9, T9, tl9, g1, g2, g3, dd_mono g4 (by omega)⟩
set_option maxRecDepth 100000 in
set_option maxHeartbeats 4000000 in
theorem act_worth {d : Nat → Nat → Int32} {r : Nat → Nat → Option Nat} {J : Nat → Nat → Int64} {D : Nat} {v w : Int32} (g : LI D d r) (hD9 : D ≤ 100) {s : Nat} (hs1 : 17 ≤ s) (hs2 : s < 19) (ls : ∀ (d : Nat → Nat → Int32) (r : Nat → Nat → Option Nat), OP kL_low yL_low 0 [.int v, .int (nI 20)] d r J (some (.int (nI s))) d r J) : ∃ d1 r1, OB kL_act yL_act 10 [.ref 0, .int v, .int w] d r J (some (.int (nI 1))) d1 r1 J 2 40 ∧ LI (D + 1) d1 r1 := by
  obtain ⟨V, n, H, S, t, T, tl, h, iv, hd, hD⟩ := g
  obtain ⟨okP, okM, okT9, okC, okW, okD⟩ := id iv.1
  have hm8 := okM.2
  have hmn : ∀ n, cnt V n 3 = nI (nv V 1) := fun _ => okM.1
  obtain ⟨c, hc, lc⟩ : ∃ q9, q9 < 4 ∧ ∀ (d : Nat → Nat → Int32) (r : Nat → Nat → Option Nat), OP kL_low yL_low 0 [.int (w), .int (nI 4)] d r J (some (.int (nI q9))) d r J := ⟨lw (w) (4), lw_lt _ (by omega), fun d r => A_L_low (by omega) (by omega)⟩
  obtain ⟨u, hu, lu⟩ : ∃ q9, q9 < 9 ∧ ∀ (d : Nat → Nat → Int32) (r : Nat → Nat → Option Nat), OP kL_low yL_low 0 [.int (w >>> (nI 2 &&& 31)), .int (nI 9)] d r J (some (.int (nI q9))) d r J := ⟨lw (w >>> (nI 2 &&& 31)) (9), lw_lt _ (by omega), fun d r => A_L_low (by omega) (by omega)⟩
  obtain ⟨i, hi, li⟩ : ∃ q9, q9 < 8 ∧ ∀ (d : Nat → Nat → Int32) (r : Nat → Nat → Option Nat), OP kL_low yL_low 0 [.int (w >>> (nI 7 &&& 31)), .int (nI 8)] d r J (some (.int (nI q9))) d r J := ⟨lw (w >>> (nI 7 &&& 31)) (8), lw_lt _ (by omega), fun d r => A_L_low (by omega) (by omega)⟩
  obtain ⟨x, hx, lx⟩ : ∃ q9, q9 < 99 ∧ ∀ (d : Nat → Nat → Int32) (r : Nat → Nat → Option Nat), OP kL_low yL_low 0 [.int (w >>> (nI 10 &&& 31)), .int (nI 99)] d r J (some (.int (nI q9))) d r J := ⟨lw (w >>> (nI 10 &&& 31)) (99), lw_lt _ (by omega), fun d r => A_L_low (by omega) (by omega)⟩
  have hwc := okW c hc
  obtain ⟨e1, x1, y1, -⟩ := C_count (J := J) (k := 2) h iv (by decide)
  rw [show cnt V n 2 = nI (20 * wsm V) from aw_nI okC okW] at x1
  obtain ⟨e2, r2, x2, y2, -⟩ := C_worth (J := J) (c := c) (w := 1 + u) y1 iv hc (by omega) (by omega)
  have hv : V (7 + c) = nI (wt V c) := hwc.1
  rw [hv] at x2
  have okV2 := ok_worth iv.1 hc (w := 1 + u) (by omega) (by omega)
  have iv2 := IV_push (rc6 y1) iv okV2 (T' := T) (tl' := tl) trivial
  obtain ⟨e3, x3, y3, -⟩ := C_count (J := J) (k := 2) y2 iv2 (by decide)
  rw [show cnt (upd V (7 + c) (nI (1 + u))) (psN n) 2 = nI (20 * wsm (upd V (7 + c) (nI (1 + u)))) from aw_nI okV2.2.2.2.1 okV2.2.2.2.2.1] at x3
  have hws := wsm_upd (V := V) (w := 1 + u) hc (by omega)
  obtain ⟨e4, x4, y4⟩ := A_L_pays (J := J) (i := i) (s := 1 + x) y3 iv2 hi (by omega) (by omega)
  refine ⟨e4, r2, am_of pl_L_act (Nat.le_of_ble_eq_true rfl) ?_, ?_⟩
  ·
    refine sw_iload_n (i := 1) dL_act_0 rfl rfl ?_
    refine sw_bi 20 dL_act_1 (by decide +kernel) ?_
    refine px_Sx ms_L_62 (ls _ _) rfl rfl (Nat.le_of_ble_eq_true rfl) (Nat.le_of_ble_eq_true rfl) (Nat.le_of_ble_eq_true rfl) dL_act_3 ?_
    refine sw_istore_n (i := 3) dL_act_6 rfl (Nat.le_of_ble_eq_true rfl) rfl ?_
    refine sw_lo (lo2 := [some (.ref 0), some (.int _), some (.int _), some (.int _), none, none, none, none, none, none, none]) rfl ?_
    refine sw_iload_n (i := 3) dL_act_7 rfl rfl ?_
    refine sw_ic 3 dL_act_8 ?_
    refine sw_ic_ge (tgt := 17) dL_act_9 rfl (fun _ => ?_) (fun h9 => absurd (nI_le (by omega) (by omega)) h9)
    refine sw_ins (pc2 := 17) rfl rfl ?_
    refine sw_iload_n (i := 3) dL_act_17 rfl rfl ?_
    refine sw_ic 5 dL_act_18 ?_
    refine sw_ic_ge (tgt := 130) dL_act_19 rfl (fun _ => ?_) (fun h9 => absurd (nI_le (by omega) (by omega)) h9)
    refine sw_iload_n (i := 3) dL_act_130 rfl rfl ?_
    refine sw_bi 9 dL_act_131 (by decide +kernel) ?_
    refine sw_ic_ge (tgt := 142) dL_act_133 rfl (fun _ => ?_) (fun h9 => absurd (nI_le (by omega) (by omega)) h9)
    refine sw_iload_n (i := 3) dL_act_142 rfl rfl ?_
    refine sw_bi 14 dL_act_143 (by decide +kernel) ?_
    refine sw_ins (pc2 := 145) rfl rfl ?_
    refine sw_ic_ge (tgt := 326) dL_act_145 rfl (fun _ => ?_) (fun h9 => absurd (nI_le (by omega) (by omega)) h9)
    refine sw_iload_n (i := 3) dL_act_326 rfl rfl ?_
    refine sw_bi 16 dL_act_327 (by decide +kernel) ?_
    refine sw_ic_ge (tgt := 362) dL_act_329 rfl (fun _ => ?_) (fun h9 => absurd (nI_le (by omega) (by omega)) h9)
    refine sw_iload_n (i := 3) dL_act_362 rfl rfl ?_
    refine sw_bi 16 dL_act_363 (by decide +kernel) ?_
    refine sw_ic_ne (tgt := 398) dL_act_365 rfl (fun _ => ?_) (fun h9 => absurd h9 (fun g => absurd ((nI_eq (by omega) (by omega)).mp g) (by omega)))
    refine sw_iload_n (i := 3) dL_act_398 rfl rfl ?_
    refine sw_ins (pc2 := 399) rfl rfl ?_
    refine sw_bi 19 dL_act_399 (by decide +kernel) ?_
    refine sw_ic_ge (tgt := 498) dL_act_401 rfl (fun h9 => absurd h9 (nI_ge (by omega) (by omega))) (fun _ => ?_)
    refine sw_iload_n (i := 2) dL_act_404 rfl rfl ?_
    refine sw_ic 4 dL_act_405 ?_
    refine px_Sx ms_L_62 (lc _ _) rfl rfl (Nat.le_of_ble_eq_true rfl) (Nat.le_of_ble_eq_true rfl) (Nat.le_of_ble_eq_true rfl) dL_act_406 ?_
    refine sw_istore (i := 4) dL_act_409 (Nat.le_of_ble_eq_true rfl) rfl ?_
    refine sw_lo (lo2 := [some (.ref 0), some (.int _), some (.int _), some (.int _), some (.int _), none, none, none, none, none, none]) rfl ?_
    refine sw_ic 1 dL_act_411 ?_
    refine sw_iload_n (i := 2) dL_act_412 rfl rfl ?_
    refine sw_ins (pc2 := 413) rfl rfl ?_
    refine sw_ic 2 dL_act_413 ?_
    refine sw_ishr rfl dL_act_414 ?_
    refine sw_bi 9 dL_act_415 (by decide +kernel) ?_
    refine px_Sx ms_L_62 (lu _ _) rfl rfl (Nat.le_of_ble_eq_true rfl) (Nat.le_of_ble_eq_true rfl) (Nat.le_of_ble_eq_true rfl) dL_act_417 ?_
    refine sw_iadd dL_act_420 ?_
    refine sw_topE (v := nI (1 + u)) (nI_add _ _) ?_
    refine sw_istore (i := 5) dL_act_421 (Nat.le_of_ble_eq_true rfl) rfl ?_
    refine sw_lo (lo2 := [some (.ref 0), some (.int _), some (.int _), some (.int _), some (.int _), some (.int _), none, none, none, none, none]) rfl ?_
    refine sw_aload_n (i := 0) dL_act_423 rfl rfl ?_
    refine sw_ic 2 dL_act_424 ?_
    refine sw_ins (pc2 := 425) rfl rfl ?_
    refine px_Vx mv_L_34 x1 rfl rfl (Nat.le_of_ble_eq_true rfl) (Nat.le_of_ble_eq_true rfl) ko_0 (Nat.le_of_ble_eq_true rfl) dL_act_425 ?_
    refine sw_istore (i := 6) dL_act_428 (Nat.le_of_ble_eq_true rfl) rfl ?_
    refine sw_lo (lo2 := [some (.ref 0), some (.int _), some (.int _), some (.int _), some (.int _), some (.int _), some (.int _), none, none, none, none]) rfl ?_
    refine sw_aload_n (i := 0) dL_act_430 rfl rfl ?_
    refine sw_iload (i := 4) dL_act_431 rfl ?_
    refine sw_iload (i := 5) dL_act_433 rfl ?_
    refine px_Vx mv_L_100 x2 rfl rfl (Nat.le_of_ble_eq_true rfl) (Nat.le_of_ble_eq_true rfl) ko_0 (Nat.le_of_ble_eq_true rfl) dL_act_435 ?_
    refine sw_istore (i := 7) dL_act_438 (Nat.le_of_ble_eq_true rfl) rfl ?_
    refine sw_lo (lo2 := [some (.ref 0), some (.int _), some (.int _), some (.int _), some (.int _), some (.int _), some (.int _), some (.int _), none, none, none]) rfl ?_
    refine sw_iload (i := 7) dL_act_440 rfl ?_
    refine sw_ins (pc2 := 442) rfl rfl ?_
    refine sw_ic 1 dL_act_442 ?_
    refine sw_ic_lt (tgt := 496) dL_act_443 rfl (fun h9 => absurd h9 (nI_nlt hwc.2.1 (by have : wt V c ≤ 9 := hwc.2.2; omega))) (fun _ => ?_)
    refine sw_aload_n (i := 0) dL_act_446 rfl rfl ?_
    refine sw_ic 2 dL_act_447 ?_
    refine px_Vx mv_L_34 x3 rfl rfl (Nat.le_of_ble_eq_true rfl) (Nat.le_of_ble_eq_true rfl) ko_0 (Nat.le_of_ble_eq_true rfl) dL_act_448 ?_
    refine sw_iload (i := 6) dL_act_451 rfl ?_
    refine sw_bi 20 dL_act_453 (by decide +kernel) ?_
    refine sw_iload (i := 5) dL_act_455 rfl ?_
    refine sw_ins (pc2 := 457) rfl rfl ?_
    refine sw_iload (i := 7) dL_act_457 rfl ?_
    refine sw_isub dL_act_459 ?_
    refine sw_imul dL_act_460 ?_
    refine sw_iadd dL_act_461 ?_
    refine sw_ic_ne (tgt := 496) dL_act_462 rfl (fun h9 => absurd (i_20 _ _ _ _ hws) h9) (fun _ => ?_)
    refine sw_aload_n (i := 0) dL_act_465 rfl rfl ?_
    refine sw_iload_n (i := 2) dL_act_466 rfl rfl ?_
    refine sw_bi 7 dL_act_467 (by decide +kernel) ?_
    refine sw_ins (pc2 := 469) rfl rfl ?_
    refine sw_ishr rfl dL_act_469 ?_
    refine sw_bi 8 dL_act_470 (by decide +kernel) ?_
    refine px_Sx ms_L_62 (li _ _) rfl rfl (Nat.le_of_ble_eq_true rfl) (Nat.le_of_ble_eq_true rfl) (Nat.le_of_ble_eq_true rfl) dL_act_472 ?_
    refine sw_ic 1 dL_act_475 ?_
    refine sw_iload_n (i := 2) dL_act_476 rfl rfl ?_
    refine sw_bi 10 dL_act_477 (by decide +kernel) ?_
    refine sw_ishr rfl dL_act_479 ?_
    refine sw_bi 99 dL_act_480 (by decide +kernel) ?_
    refine sw_ins (pc2 := 482) rfl rfl ?_
    refine px_Sx ms_L_62 (lx _ _) rfl rfl (Nat.le_of_ble_eq_true rfl) (Nat.le_of_ble_eq_true rfl) (Nat.le_of_ble_eq_true rfl) dL_act_482 ?_
    refine sw_iadd dL_act_485 ?_
    refine sw_topE (v := nI (1 + x)) (nI_add _ _) ?_
    refine px_Sx ms_L_103 x4 rfl rfl (Nat.le_of_ble_eq_true rfl) (Nat.le_of_ble_eq_true rfl) (Nat.le_of_ble_eq_true rfl) dL_act_486 ?_
    refine sw_if_eq (tgt := 496) dL_act_489 rfl (fun h9 => absurd h9 (by decide)) (fun _ => ?_)
    refine sw_ic 1 dL_act_492 ?_
    refine sw_goto (tgt := 497) dL_act_493 rfl ?_
    exact sw_zreturnE rfl rfl rfl dL_act_497
  · exact ⟨_, _, _, _, _, _, _, y4, iv2, due_upd hd _ (by omega) (by omega), dd_mono (dd_upd hD _ (by omega) (by omega)) (by omega)⟩
set_option maxRecDepth 100000 in
set_option maxHeartbeats 4000000 in
theorem act_set {d : Nat → Nat → Int32} {r : Nat → Nat → Option Nat} {J : Nat → Nat → Int64} {D : Nat} {v w : Int32} (g : LI D d r) (hD9 : D ≤ 100) {s : Nat} (hs1 : 19 ≤ s) (hs2 : s < 20) (ls : ∀ (d : Nat → Nat → Int32) (r : Nat → Nat → Option Nat), OP kL_low yL_low 0 [.int v, .int (nI 20)] d r J (some (.int (nI s))) d r J) : ∃ d1 r1, OB kL_act yL_act 10 [.ref 0, .int v, .int w] d r J (some (.int (nI 1))) d1 r1 J 2 40 ∧ LI (D + 1) d1 r1 := by
  obtain ⟨V, n, H, S, t, T, tl, h, iv, hd, hD⟩ := g
  obtain ⟨okP, okM, okT9, okC, okW, okD⟩ := id iv.1
  have hm8 := okM.2
  have hmn : ∀ n, cnt V n 3 = nI (nv V 1) := fun _ => okM.1
  obtain ⟨u, hu, lu⟩ : ∃ q9, q9 < 10 ∧ ∀ (d : Nat → Nat → Int32) (r : Nat → Nat → Option Nat), OP kL_low yL_low 0 [.int (w), .int (nI 10)] d r J (some (.int (nI q9))) d r J := ⟨lw (w) (10), lw_lt _ (by omega), fun d r => A_L_low (by omega) (by omega)⟩
  obtain ⟨e1, x1, y1, -⟩ := C_count (J := J) (k := 8) h iv (by decide)
  obtain ⟨e2, r2, x2, y2, -⟩ := C_set (J := J) (w := u) y1 iv (by omega)
  have okV2 := ok_set iv.1 (w := u) (by omega)
  have iv2 := IV_push (rc6 y1) iv okV2 (T' := T) (tl' := tl) trivial
  obtain ⟨e3, x3, y3, -⟩ := C_count (J := J) (k := 8) y2 iv2 (by decide)
  rw [show cnt (upd V 6 (nI u)) (psN n) 8 = nI u from upd_eq _ _ _] at x3
  refine ⟨e3, r2, am_of pl_L_act (Nat.le_of_ble_eq_true rfl) ?_, ?_⟩
  ·
    refine sw_iload_n (i := 1) dL_act_0 rfl rfl ?_
    refine sw_bi 20 dL_act_1 (by decide +kernel) ?_
    refine px_Sx ms_L_62 (ls _ _) rfl rfl (Nat.le_of_ble_eq_true rfl) (Nat.le_of_ble_eq_true rfl) (Nat.le_of_ble_eq_true rfl) dL_act_3 ?_
    refine sw_istore_n (i := 3) dL_act_6 rfl (Nat.le_of_ble_eq_true rfl) rfl ?_
    refine sw_lo (lo2 := [some (.ref 0), some (.int _), some (.int _), some (.int _), none, none, none, none, none, none, none]) rfl ?_
    refine sw_iload_n (i := 3) dL_act_7 rfl rfl ?_
    refine sw_ic 3 dL_act_8 ?_
    refine sw_ic_ge (tgt := 17) dL_act_9 rfl (fun _ => ?_) (fun h9 => absurd (nI_le (by omega) (by omega)) h9)
    refine sw_ins (pc2 := 17) rfl rfl ?_
    refine sw_iload_n (i := 3) dL_act_17 rfl rfl ?_
    refine sw_ic 5 dL_act_18 ?_
    refine sw_ic_ge (tgt := 130) dL_act_19 rfl (fun _ => ?_) (fun h9 => absurd (nI_le (by omega) (by omega)) h9)
    refine sw_iload_n (i := 3) dL_act_130 rfl rfl ?_
    refine sw_bi 9 dL_act_131 (by decide +kernel) ?_
    refine sw_ic_ge (tgt := 142) dL_act_133 rfl (fun _ => ?_) (fun h9 => absurd (nI_le (by omega) (by omega)) h9)
    refine sw_iload_n (i := 3) dL_act_142 rfl rfl ?_
    refine sw_bi 14 dL_act_143 (by decide +kernel) ?_
    refine sw_ins (pc2 := 145) rfl rfl ?_
    refine sw_ic_ge (tgt := 326) dL_act_145 rfl (fun _ => ?_) (fun h9 => absurd (nI_le (by omega) (by omega)) h9)
    refine sw_iload_n (i := 3) dL_act_326 rfl rfl ?_
    refine sw_bi 16 dL_act_327 (by decide +kernel) ?_
    refine sw_ic_ge (tgt := 362) dL_act_329 rfl (fun _ => ?_) (fun h9 => absurd (nI_le (by omega) (by omega)) h9)
    refine sw_iload_n (i := 3) dL_act_362 rfl rfl ?_
    refine sw_bi 16 dL_act_363 (by decide +kernel) ?_
    refine sw_ic_ne (tgt := 398) dL_act_365 rfl (fun _ => ?_) (fun h9 => absurd h9 (fun g => absurd ((nI_eq (by omega) (by omega)).mp g) (by omega)))
    refine sw_iload_n (i := 3) dL_act_398 rfl rfl ?_
    refine sw_ins (pc2 := 399) rfl rfl ?_
    refine sw_bi 19 dL_act_399 (by decide +kernel) ?_
    refine sw_ic_ge (tgt := 498) dL_act_401 rfl (fun _ => ?_) (fun h9 => absurd (nI_le (by omega) (by omega)) h9)
    refine sw_aload_n (i := 0) dL_act_498 rfl rfl ?_
    refine sw_bi 8 dL_act_499 (by decide +kernel) ?_
    refine px_Vx mv_L_34 x1 rfl rfl (Nat.le_of_ble_eq_true rfl) (Nat.le_of_ble_eq_true rfl) ko_0 (Nat.le_of_ble_eq_true rfl) dL_act_501 ?_
    refine sw_istore (i := 4) dL_act_504 (Nat.le_of_ble_eq_true rfl) rfl ?_
    refine sw_lo (lo2 := [some (.ref 0), some (.int _), some (.int _), some (.int _), some (.int _), none, none, none, none, none, none]) rfl ?_
    refine sw_aload_n (i := 0) dL_act_506 rfl rfl ?_
    refine sw_iload_n (i := 2) dL_act_507 rfl rfl ?_
    refine sw_ins (pc2 := 508) rfl rfl ?_
    refine sw_bi 10 dL_act_508 (by decide +kernel) ?_
    refine px_Sx ms_L_62 (lu _ _) rfl rfl (Nat.le_of_ble_eq_true rfl) (Nat.le_of_ble_eq_true rfl) (Nat.le_of_ble_eq_true rfl) dL_act_510 ?_
    refine px_Vx mv_L_107 x2 rfl rfl (Nat.le_of_ble_eq_true rfl) (Nat.le_of_ble_eq_true rfl) ko_0 (Nat.le_of_ble_eq_true rfl) dL_act_513 ?_
    refine sw_iload (i := 4) dL_act_516 rfl ?_
    refine sw_ic_ne (tgt := 540) dL_act_518 rfl (fun h9 => absurd rfl h9) (fun _ => ?_)
    refine sw_aload_n (i := 0) dL_act_521 rfl rfl ?_
    refine sw_bi 8 dL_act_522 (by decide +kernel) ?_
    refine px_Vx mv_L_34 x3 rfl rfl (Nat.le_of_ble_eq_true rfl) (Nat.le_of_ble_eq_true rfl) ko_0 (Nat.le_of_ble_eq_true rfl) dL_act_524 ?_
    refine sw_ins (pc2 := 527) rfl rfl ?_
    refine sw_iload_n (i := 2) dL_act_527 rfl rfl ?_
    refine sw_bi 10 dL_act_528 (by decide +kernel) ?_
    refine px_Sx ms_L_62 (lu _ _) rfl rfl (Nat.le_of_ble_eq_true rfl) (Nat.le_of_ble_eq_true rfl) (Nat.le_of_ble_eq_true rfl) dL_act_530 ?_
    refine sw_ic_ne (tgt := 540) dL_act_533 rfl (fun h9 => absurd rfl h9) (fun _ => ?_)
    refine sw_ic 1 dL_act_536 ?_
    refine sw_goto (tgt := 541) dL_act_537 rfl ?_
    exact sw_zreturnE rfl rfl rfl dL_act_541
  · exact ⟨_, _, _, _, _, _, _, y3, iv2, due_upd hd _ (by omega) (by omega), dd_mono (dd_upd hD _ (by omega) (by omega)) (by omega)⟩
set_option maxRecDepth 100000 in
set_option maxHeartbeats 4000000 in
theorem A_L_act {d : Nat → Nat → Int32} {r : Nat → Nat → Option Nat} {J : Nat → Nat → Int64} {D : Nat} {v w : Int32} (g : LI D d r) (hD9 : D ≤ 100) : ∃ d1 r1, OB kL_act yL_act 10 [.ref 0, .int v, .int w] d r J (some (.int (nI 1))) d1 r1 J 2 40 ∧ LI (D + 1) d1 r1 := by
  obtain ⟨s, hs0, ls⟩ : ∃ q9, q9 < 20 ∧ ∀ (d : Nat → Nat → Int32) (r : Nat → Nat → Option Nat), OP kL_low yL_low 0 [.int (v), .int (nI 20)] d r J (some (.int (nI q9))) d r J := ⟨lw (v) (20), lw_lt _ (by omega), fun d r => A_L_low (by omega) (by omega)⟩
  have hs : s < 3 ∨ (3 ≤ s ∧ s < 5) ∨ (5 ≤ s ∧ s < 9) ∨ (9 ≤ s ∧ s < 14) ∨ (14 ≤ s ∧ s < 16) ∨ (16 ≤ s ∧ s < 17) ∨ (17 ≤ s ∧ s < 19) ∨ (19 ≤ s ∧ s < 20) := by omega
  rcases hs with q | q | q | q | q | q | q | q
  · exact act_storms g hD9 (Nat.zero_le _) q ls
  · exact act_cross g hD9 q.1 q.2 ls
  · exact act_trades g hD9 q.1 q.2 ls
  · exact act_promise g hD9 q.1 q.2 ls
  · exact act_fulfils g hD9 q.1 q.2 ls
  · exact act_waits g hD9 q.1 q.2 ls
  · exact act_worth g hD9 q.1 q.2 ls
  · exact act_set g hD9 q.1 q.2 ls
