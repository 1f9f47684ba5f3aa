/-! THE MODEL, 8: does, readText (own work, written by wip/tools) -/
set_option maxRecDepth 100000 in
set_option maxHeartbeats 4000000 in
theorem As_X7_does {d : Nat → Nat → Int32} {r : Nat → Nat → Option Nat} {J : Nat → Nat → Int64} {f : Nat → Int32} {L p : Nat} (ok : okV (mV d)) (h : tld d f L p) (c0 : sg f L p = 115) : ∃ d1, OP kX7_does yX7_does 6 [.ref 65] d r J (some (.int (doB (mV d) f L p))) d1 r J ∧ mV d1 = doV (mV d) f L p ∧ ∀ c, c ≠ 66 → c ≠ 71 → c ≠ 72 → d1 c = d c := by
  obtain ⟨okP, okM, okT9, okC, okW, okD⟩ := id ok
  obtain ⟨t1, t2, t3, t4, t5⟩ := id h
  have hm8 := okM.2
  have q3 : doB (mV d) f L p = canS (mV d) := if_pos c0
  have q4 : doV (mV d) f L p = sdV (mV d) := if_pos c0
  rw [q3, q4]
  unfold canS sdV
  by_cases hd : nI 9999 ≤ mV d 0
  · rw [if_pos hd, if_pos hd]
    refine ⟨d, op_of pl_X7_does (Nat.le_of_ble_eq_true rfl) ?_, rfl, fun c _ _ _ => rfl⟩
    refine sw_aload_n (i := 0) dX7_does_0 rfl rfl ?_
    refine sx_getIE (nI 115) (t1.trans (congrArg nI c0)) f_X7_138 (by decide) kf_65_11 dX7_does_1 ?_
    refine sw_lookup (off := 36) (tgt := 40) dX7_does_4 (by decide) (by decide) (by decide) ?_
    refine sw_aload_n (i := 0) dX7_does_40 rfl rfl ?_
    refine sx_getR (q := 66) f_X7_7 (by decide) kr_65_0 dX7_does_41 ?_
    refine sw_ic 0 dX7_does_44 ?_
    refine sx_ialdE (0) (mV d 0) (mV_in d (by decide) rfl) rfl rfl (by omega) dX7_does_45 ?_
    refine sw_ins (pc2 := 46) rfl rfl ?_
    refine sw_si 9999 dX7_does_46 (by decide +kernel) ?_
    refine sw_ic_ge (tgt := 63) dX7_does_49 rfl (fun _ => ?_) (fun h9 => absurd hd h9)
    refine sw_ic 0 dX7_does_63 ?_
    exact sw_zreturnE rfl rfl rfl dX7_does_64
  · rw [if_neg hd, if_neg hd]
    have hb := (brkG_n (nv (stm (mV d)) 1) (stm (mV d)) 0).2
    have hb2 : nv (stm (mV d)) 1 = nv (mV d) 1 := rfl
    have hb3 : (brk (stm (mV d))).2 ≤ 8 := by show (brkG (nv (stm (mV d)) 1) (stm (mV d)) 0).2 ≤ 8; omega
    obtain ⟨d1, g1, g2, g3⟩ := A_X7_doStorm (d := d) (r := r) (J := J) okP okM
    refine ⟨d1, op_of pl_X7_does (Nat.le_of_ble_eq_true rfl) ?_, g2, fun c h1 h2 h3 => g3 c h1 h3⟩
    refine sw_aload_n (i := 0) dX7_does_0 rfl rfl ?_
    refine sx_getIE (nI 115) (t1.trans (congrArg nI c0)) f_X7_138 (by decide) kf_65_11 dX7_does_1 ?_
    refine sw_lookup (off := 36) (tgt := 40) dX7_does_4 (by decide) (by decide) (by decide) ?_
    refine sw_aload_n (i := 0) dX7_does_40 rfl rfl ?_
    refine sx_getR (q := 66) f_X7_7 (by decide) kr_65_0 dX7_does_41 ?_
    refine sw_ic 0 dX7_does_44 ?_
    refine sx_ialdE (0) (mV d 0) (mV_in d (by decide) rfl) rfl rfl (by omega) dX7_does_45 ?_
    refine sw_ins (pc2 := 46) rfl rfl ?_
    refine sw_si 9999 dX7_does_46 (by decide +kernel) ?_
    refine sw_ic_ge (tgt := 63) dX7_does_49 rfl (fun h9 => absurd h9 hd) (fun _ => ?_)
    refine sw_aload_n (i := 0) dX7_does_52 rfl rfl ?_
    refine px_Vx mv_X7_98 g1 rfl rfl (Nat.le_of_ble_eq_true rfl) (Nat.le_of_ble_eq_true rfl) ko_65 (Nat.le_of_ble_eq_true rfl) dX7_does_53 ?_
    refine sw_if_lt (tgt := 63) dX7_does_56 rfl (fun h9 => absurd h9 (Int32.not_lt.mpr (nI_le (Nat.zero_le _) (by omega)))) (fun _ => ?_)
    refine sw_ic 1 dX7_does_59 ?_
    refine sw_goto (tgt := 64) dX7_does_60 rfl ?_
    exact sw_zreturnE rfl rfl rfl dX7_does_64
set_option maxRecDepth 100000 in
set_option maxHeartbeats 4000000 in
theorem Ax_X7_does {d : Nat → Nat → Int32} {r : Nat → Nat → Option Nat} {J : Nat → Nat → Int64} {f : Nat → Int32} {L p : Nat} (ok : okV (mV d)) (h : tld d f L p) (c0 : sg f L p = 120) (c1 : dg8 (sg f L (p + 1))) (c2 : dg8 (sg f L (p + 2))) : ∃ d1, OP kX7_does yX7_does 6 [.ref 65] d r J (some (.int (doB (mV d) f L p))) d1 r J ∧ mV d1 = doV (mV d) f L p ∧ ∀ c, c ≠ 66 → c ≠ 71 → c ≠ 72 → d1 c = d c := by
  obtain ⟨okP, okM, okT9, okC, okW, okD⟩ := id ok
  obtain ⟨t1, t2, t3, t4, t5⟩ := id h
  have hm8 := okM.2
  have q3 : doB (mV d) f L p = nI 1 := by
    unfold doB
    rw [if_neg (show ¬ sg f L p = 115 by omega), if_pos c0]
  have q4 : doV (mV d) f L p = swp (mV d) (dn (sg f L (p + 1))) (dn (sg f L (p + 2))) := by
    unfold doV
    rw [if_neg (show ¬ sg f L p = 115 by omega), if_pos c0]
  rw [q3, q4]
  have w1 := dgt_8 c1
  have w2 := dgt_8 c2
  have t3 := t3.resolve_left (by omega)
  have t4 := (t4.resolve_left (by omega)).resolve_left (by omega)
  have hq := (ok_swp ok w1.2 w2.2).1.1 (dn (sg f L (p + 1))) w1.2
  obtain ⟨d1, g1, g2, g3⟩ := A_X7_doCross (d := d) (r := r) (J := J) w1.2 w2.2
  rw [hq.1] at g1
  refine ⟨d1, op_of pl_X7_does (Nat.le_of_ble_eq_true rfl) ?_, g2, fun c h1 h2 h3 => g3 c h1⟩
  refine sw_aload_n (i := 0) dX7_does_0 rfl rfl ?_
  refine sx_getIE (nI 120) (t1.trans (congrArg nI c0)) f_X7_138 (by decide) kf_65_11 dX7_does_1 ?_
  refine sw_lookup (off := 61) (tgt := 65) dX7_does_4 (by decide) (by decide) (by decide) ?_
  refine sw_aload_n (i := 0) dX7_does_65 rfl rfl ?_
  refine sw_aload_n (i := 0) dX7_does_66 rfl rfl ?_
  refine sx_getR (q := 73) f_X7_32 (by decide) kr_65_12 dX7_does_67 ?_
  refine sw_ic 0 dX7_does_70 ?_
  refine sw_ins (pc2 := 71) rfl rfl ?_
  refine sx_ialdE (0) (nI (dn (sg f L (p + 1)))) t3 rfl rfl (by omega) dX7_does_71 ?_
  refine sw_aload_n (i := 0) dX7_does_72 rfl rfl ?_
  refine sx_getR (q := 73) f_X7_32 (by decide) kr_65_12 dX7_does_73 ?_
  refine sw_ic 1 dX7_does_76 ?_
  refine sx_ialdE (1) (nI (dn (sg f L (p + 2)))) t4 rfl rfl (by omega) dX7_does_77 ?_
  refine px_Vx mv_X7_102 g1 rfl rfl (Nat.le_of_ble_eq_true rfl) (Nat.le_of_ble_eq_true rfl) ko_65 (Nat.le_of_ble_eq_true rfl) dX7_does_78 ?_
  refine sw_if_lt (tgt := 88) dX7_does_81 rfl (fun h9 => absurd h9 (Int32.not_lt.mpr (nI_le (Nat.zero_le _) (by omega)))) (fun _ => ?_)
  refine sw_ic 1 dX7_does_84 ?_
  refine sw_ins (pc2 := 85) rfl rfl ?_
  refine sw_goto (tgt := 89) dX7_does_85 rfl ?_
  exact sw_zreturnE rfl rfl rfl dX7_does_89
set_option maxRecDepth 100000 in
set_option maxHeartbeats 4000000 in
theorem Ap_X7_does {d : Nat → Nat → Int32} {r : Nat → Nat → Option Nat} {J : Nat → Nat → Int64} {f : Nat → Int32} {L p : Nat} (ok : okV (mV d)) (h : tld d f L p) (c0 : sg f L p = 112) (c1 : dg8 (sg f L (p + 1))) (c2 : dg8 (sg f L (p + 2))) (cn : sg f L (p + 1) ≠ sg f L (p + 2)) {s u : Nat} (s1 : 1 ≤ s) (s2 : s ≤ 99) (s3 : smO f L p = nI s) (u2 : u ≤ 9) (u3 : dyO f L p = nI u) : ∃ d1, OP kX7_does yX7_does 6 [.ref 65] d r J (some (.int (doB (mV d) f L p))) d1 r J ∧ mV d1 = doV (mV d) f L p ∧ ∀ c, c ≠ 66 → c ≠ 71 → c ≠ 72 → d1 c = d c := by
  obtain ⟨okP, okM, okT9, okC, okW, okD⟩ := id ok
  obtain ⟨t1, t2, t3, t4, t5⟩ := id h
  have hm8 := okM.2
  have w1 := dgt_8 c1
  have w2 := dgt_8 c2
  have t3 := t3.resolve_left (by omega)
  have t4 := (t4.resolve_left (by omega)).resolve_left (by omega)
  have t5 := t5.resolve_left (by omega)
  have q3 : doB (mV d) f L p = if nv (mV d) 1 < 8 then nI 1 else nI 0 := by
    unfold doB
    rw [if_neg (show ¬ sg f L p = 115 by omega), if_neg (show ¬ sg f L p = 120 by omega), if_pos c0]
  have q4 : doV (mV d) f L p = if nv (mV d) 1 < 8 then mkp (mV d) (nI (dn (sg f L (p + 1)))) (nI (dn (sg f L (p + 2)))) (nI s) (nI u) else rfz (mV d) := by
    unfold doV
    rw [if_neg (show ¬ sg f L p = 115 by omega), if_neg (show ¬ sg f L p = 120 by omega), if_pos c0, w1.1, w2.1, s3, u3]
  rw [q3, q4]
  have hab : ¬ nI (dn (sg f L (p + 1))) = nI (dn (sg f L (p + 2))) := by
    intro q
    have q := (nI_eq (by omega) (by omega)).mp q
    have k1 : 48 ≤ sg f L (p + 1) ∧ sg f L (p + 1) ≤ 55 := c1
    have k2 : 48 ≤ sg f L (p + 2) ∧ sg f L (p + 2) ≤ 55 := c2
    unfold dn at q
    omega
  have hpe := P6_X7_promiseError (d := d) (r := r) (J := J) w1.2 w2.2 hab s1 s2 u2
  by_cases hm : nv (mV d) 1 < 8
  · rw [if_pos hm, if_pos hm]
    obtain ⟨d1, g1, g2, g3⟩ := A1_X7_doPromise (d := d) (r := r) (J := J) (f := nI (dn (sg f L (p + 1)))) (t := nI (dn (sg f L (p + 2)))) (s := nI s) (dd := nI u) okM hm
    refine ⟨d1, op_of pl_X7_does (Nat.le_of_ble_eq_true rfl) ?_, g2, fun c h1 h2 h3 => g3 c h1⟩
    refine sw_aload_n (i := 0) dX7_does_0 rfl rfl ?_
    refine sx_getIE (nI 112) (t1.trans (congrArg nI c0)) f_X7_138 (by decide) kf_65_11 dX7_does_1 ?_
    refine sw_lookup (off := 86) (tgt := 90) dX7_does_4 (by decide) (by decide) (by decide) ?_
    refine sw_aload_n (i := 0) dX7_does_90 rfl rfl ?_
    refine sx_getR (q := 73) f_X7_32 (by decide) kr_65_12 dX7_does_91 ?_
    refine sw_ic 0 dX7_does_94 ?_
    refine sx_ialdE (0) (nI (dn (sg f L (p + 1)))) t3 rfl rfl (by omega) dX7_does_95 ?_
    refine sw_ins (pc2 := 96) rfl rfl ?_
    refine sw_aload_n (i := 0) dX7_does_96 rfl rfl ?_
    refine sx_getR (q := 73) f_X7_32 (by decide) kr_65_12 dX7_does_97 ?_
    refine sw_ic 1 dX7_does_100 ?_
    refine sx_ialdE (1) (nI (dn (sg f L (p + 2)))) t4 rfl rfl (by omega) dX7_does_101 ?_
    refine sw_aload_n (i := 0) dX7_does_102 rfl rfl ?_
    refine sx_getR (q := 73) f_X7_32 (by decide) kr_65_12 dX7_does_103 ?_
    refine sw_ic 2 dX7_does_106 ?_
    refine sx_ialdE (2) (nI s) ((t5.1).trans s3) rfl rfl (by omega) dX7_does_107 ?_
    refine sw_ins (pc2 := 108) rfl rfl ?_
    refine sw_aload_n (i := 0) dX7_does_108 rfl rfl ?_
    refine sx_getR (q := 73) f_X7_32 (by decide) kr_65_12 dX7_does_109 ?_
    refine sw_ic 3 dX7_does_112 ?_
    refine sx_ialdE (3) (nI u) ((t5.2).trans u3) rfl rfl (by omega) dX7_does_113 ?_
    refine px_Sx ms_X7_112 hpe rfl rfl (Nat.le_of_ble_eq_true rfl) (Nat.le_of_ble_eq_true rfl) (Nat.le_of_ble_eq_true rfl) dX7_does_114 ?_
    refine sw_if_ne (tgt := 156) dX7_does_117 rfl (fun h9 => absurd (by decide) h9) (fun _ => ?_)
    refine sw_aload_n (i := 0) dX7_does_120 rfl rfl ?_
    refine sw_aload_n (i := 0) dX7_does_121 rfl rfl ?_
    refine sw_ins (pc2 := 122) rfl rfl ?_
    refine sx_getR (q := 73) f_X7_32 (by decide) kr_65_12 dX7_does_122 ?_
    refine sw_ic 0 dX7_does_125 ?_
    refine sx_ialdE (0) (nI (dn (sg f L (p + 1)))) t3 rfl rfl (by omega) dX7_does_126 ?_
    refine sw_aload_n (i := 0) dX7_does_127 rfl rfl ?_
    refine sx_getR (q := 73) f_X7_32 (by decide) kr_65_12 dX7_does_128 ?_
    refine sw_ic 1 dX7_does_131 ?_
    refine sx_ialdE (1) (nI (dn (sg f L (p + 2)))) t4 rfl rfl (by omega) dX7_does_132 ?_
    refine sw_aload_n (i := 0) dX7_does_133 rfl rfl ?_
    refine sw_ins (pc2 := 134) rfl rfl ?_
    refine sx_getR (q := 73) f_X7_32 (by decide) kr_65_12 dX7_does_134 ?_
    refine sw_ic 2 dX7_does_137 ?_
    refine sx_ialdE (2) (nI s) ((t5.1).trans s3) rfl rfl (by omega) dX7_does_138 ?_
    refine sw_aload_n (i := 0) dX7_does_139 rfl rfl ?_
    refine sx_getR (q := 73) f_X7_32 (by decide) kr_65_12 dX7_does_140 ?_
    refine sw_ic 3 dX7_does_143 ?_
    refine sx_ialdE (3) (nI u) ((t5.2).trans u3) rfl rfl (by omega) dX7_does_144 ?_
    refine px_Vx mv_X7_116 g1 rfl rfl (Nat.le_of_ble_eq_true rfl) (Nat.le_of_ble_eq_true rfl) ko_65 (Nat.le_of_ble_eq_true rfl) dX7_does_145 ?_
    refine sw_ins (pc2 := 148) rfl rfl ?_
    refine sw_im1 dX7_does_148 ?_
    refine sw_ic_eq (tgt := 156) dX7_does_149 rfl (fun h9 => absurd h9 (nI_ne_m1 (by omega))) (fun _ => ?_)
    refine sw_ic 1 dX7_does_152 ?_
    refine sw_goto (tgt := 157) dX7_does_153 rfl ?_
    exact sw_zreturnE rfl rfl rfl dX7_does_157
  · rw [if_neg hm, if_neg hm]
    obtain ⟨d1, g1, g2, g3⟩ := A0_X7_doPromise (d := d) (r := r) (J := J) (f := nI (dn (sg f L (p + 1)))) (t := nI (dn (sg f L (p + 2)))) (s := nI s) (dd := nI u) okM (by omega)
    refine ⟨d1, op_of pl_X7_does (Nat.le_of_ble_eq_true rfl) ?_, g2, fun c h1 h2 h3 => g3 c h1⟩
    refine sw_aload_n (i := 0) dX7_does_0 rfl rfl ?_
    refine sx_getIE (nI 112) (t1.trans (congrArg nI c0)) f_X7_138 (by decide) kf_65_11 dX7_does_1 ?_
    refine sw_lookup (off := 86) (tgt := 90) dX7_does_4 (by decide) (by decide) (by decide) ?_
    refine sw_aload_n (i := 0) dX7_does_90 rfl rfl ?_
    refine sx_getR (q := 73) f_X7_32 (by decide) kr_65_12 dX7_does_91 ?_
    refine sw_ic 0 dX7_does_94 ?_
    refine sx_ialdE (0) (nI (dn (sg f L (p + 1)))) t3 rfl rfl (by omega) dX7_does_95 ?_
    refine sw_ins (pc2 := 96) rfl rfl ?_
    refine sw_aload_n (i := 0) dX7_does_96 rfl rfl ?_
    refine sx_getR (q := 73) f_X7_32 (by decide) kr_65_12 dX7_does_97 ?_
    refine sw_ic 1 dX7_does_100 ?_
    refine sx_ialdE (1) (nI (dn (sg f L (p + 2)))) t4 rfl rfl (by omega) dX7_does_101 ?_
    refine sw_aload_n (i := 0) dX7_does_102 rfl rfl ?_
    refine sx_getR (q := 73) f_X7_32 (by decide) kr_65_12 dX7_does_103 ?_
    refine sw_ic 2 dX7_does_106 ?_
    refine sx_ialdE (2) (nI s) ((t5.1).trans s3) rfl rfl (by omega) dX7_does_107 ?_
    refine sw_ins (pc2 := 108) rfl rfl ?_
    refine sw_aload_n (i := 0) dX7_does_108 rfl rfl ?_
    refine sx_getR (q := 73) f_X7_32 (by decide) kr_65_12 dX7_does_109 ?_
    refine sw_ic 3 dX7_does_112 ?_
    refine sx_ialdE (3) (nI u) ((t5.2).trans u3) rfl rfl (by omega) dX7_does_113 ?_
    refine px_Sx ms_X7_112 hpe rfl rfl (Nat.le_of_ble_eq_true rfl) (Nat.le_of_ble_eq_true rfl) (Nat.le_of_ble_eq_true rfl) dX7_does_114 ?_
    refine sw_if_ne (tgt := 156) dX7_does_117 rfl (fun h9 => absurd (by decide) h9) (fun _ => ?_)
    refine sw_aload_n (i := 0) dX7_does_120 rfl rfl ?_
    refine sw_aload_n (i := 0) dX7_does_121 rfl rfl ?_
    refine sw_ins (pc2 := 122) rfl rfl ?_
    refine sx_getR (q := 73) f_X7_32 (by decide) kr_65_12 dX7_does_122 ?_
    refine sw_ic 0 dX7_does_125 ?_
    refine sx_ialdE (0) (nI (dn (sg f L (p + 1)))) t3 rfl rfl (by omega) dX7_does_126 ?_
    refine sw_aload_n (i := 0) dX7_does_127 rfl rfl ?_
    refine sx_getR (q := 73) f_X7_32 (by decide) kr_65_12 dX7_does_128 ?_
    refine sw_ic 1 dX7_does_131 ?_
    refine sx_ialdE (1) (nI (dn (sg f L (p + 2)))) t4 rfl rfl (by omega) dX7_does_132 ?_
    refine sw_aload_n (i := 0) dX7_does_133 rfl rfl ?_
    refine sw_ins (pc2 := 134) rfl rfl ?_
    refine sx_getR (q := 73) f_X7_32 (by decide) kr_65_12 dX7_does_134 ?_
    refine sw_ic 2 dX7_does_137 ?_
    refine sx_ialdE (2) (nI s) ((t5.1).trans s3) rfl rfl (by omega) dX7_does_138 ?_
    refine sw_aload_n (i := 0) dX7_does_139 rfl rfl ?_
    refine sx_getR (q := 73) f_X7_32 (by decide) kr_65_12 dX7_does_140 ?_
    refine sw_ic 3 dX7_does_143 ?_
    refine sx_ialdE (3) (nI u) ((t5.2).trans u3) rfl rfl (by omega) dX7_does_144 ?_
    refine px_Vx mv_X7_116 g1 rfl rfl (Nat.le_of_ble_eq_true rfl) (Nat.le_of_ble_eq_true rfl) ko_65 (Nat.le_of_ble_eq_true rfl) dX7_does_145 ?_
    refine sw_ins (pc2 := 148) rfl rfl ?_
    refine sw_im1 dX7_does_148 ?_
    refine sw_ic_eq (tgt := 156) dX7_does_149 rfl (fun _ => ?_) (fun h9 => absurd (by decide) h9)
    refine sw_ic 0 dX7_does_156 ?_
    exact sw_zreturnE rfl rfl rfl dX7_does_157
set_option maxRecDepth 100000 in
set_option maxHeartbeats 4000000 in
theorem Ak_X7_does {d : Nat → Nat → Int32} {r : Nat → Nat → Option Nat} {J : Nat → Nat → Int64} {f : Nat → Int32} {L p : Nat} (ok : okV (mV d)) (h : tld d f L p) (c0 : sg f L p = 107) (c1 : dg8 (sg f L (p + 1))) : ∃ d1, OP kX7_does yX7_does 6 [.ref 65] d r J (some (.int (doB (mV d) f L p))) d1 r J ∧ mV d1 = doV (mV d) f L p ∧ ∀ c, c ≠ 66 → c ≠ 71 → c ≠ 72 → d1 c = d c := by
  obtain ⟨okP, okM, okT9, okC, okW, okD⟩ := id ok
  obtain ⟨t1, t2, t3, t4, t5⟩ := id h
  have hm8 := okM.2
  have w1 := dgt_8 c1
  have t3 := t3.resolve_left (by omega)
  have q3 : doB (mV d) f L p = if (dn (sg f L (p + 1))) < nv (mV d) 1 then dkn (wy (mV d) (prt (mV d) (dn (sg f L (p + 1))) 0) (prt (mV d) (dn (sg f L (p + 1))) 2)) else nI 0 := by
    unfold doB
    rw [if_neg (show ¬ sg f L p = 115 by omega), if_neg (show ¬ sg f L p = 120 by omega), if_neg (show ¬ sg f L p = 112 by omega)]
  have q4 : doV (mV d) f L p = if (dn (sg f L (p + 1))) < nv (mV d) 1 then kpV (mV d) (dn (sg f L (p + 1))) (wy (mV d) (prt (mV d) (dn (sg f L (p + 1))) 0) (prt (mV d) (dn (sg f L (p + 1))) 2)) else mV d := by
    unfold doV
    rw [if_neg (show ¬ sg f L p = 115 by omega), if_neg (show ¬ sg f L p = 120 by omega), if_neg (show ¬ sg f L p = 112 by omega)]
  rw [q3, q4]
  by_cases hm : (dn (sg f L (p + 1))) < nv (mV d) 1
  · rw [if_pos hm, if_pos hm]
    have p2 := (okT9 _ hm).2.1
    obtain ⟨d1, g1, g2, g3⟩ := A_X7_doFulfil (d := d) (r := r) (J := J) ok hm
    refine ⟨d1, op_of pl_X7_does (Nat.le_of_ble_eq_true rfl) ?_, g2, fun c h1 h2 h3 => g3 c h1 h2⟩
    generalize hw : (wy (mV d) (prt (mV d) (dn (sg f L (p + 1))) 0) (prt (mV d) (dn (sg f L (p + 1))) 2)) = w at g1 ⊢
    have hsm : small w := by
      rw [← hw]
      exact small_wy okC p2
    cases w with
    | none =>
      refine sw_aload_n (i := 0) dX7_does_0 rfl rfl ?_
      refine sx_getIE (nI (sg f L p)) t1 f_X7_138 (by decide) kf_65_11 dX7_does_1 ?_
      refine sw_lookup (off := 154) (tgt := 158) dX7_does_4 (by decide) (by rw [c0]; decide) (by decide) ?_
      refine sw_aload_n (i := 0) dX7_does_158 rfl rfl ?_
      refine sw_aload_n (i := 0) dX7_does_159 rfl rfl ?_
      refine sx_getR (q := 73) f_X7_32 (by decide) kr_65_12 dX7_does_160 ?_
      refine sw_ic 0 dX7_does_163 ?_
      refine sw_ins (pc2 := 164) rfl rfl ?_
      refine sx_ialdE (0) (nI (dn (sg f L (p + 1)))) t3 rfl rfl (by omega) dX7_does_164 ?_
      refine px_Vx mv_X7_119 (A1_X7_isPromise okM hm) rfl rfl (Nat.le_of_ble_eq_true rfl) (Nat.le_of_ble_eq_true rfl) ko_65 (Nat.le_of_ble_eq_true rfl) dX7_does_165 ?_
      refine sw_if_eq (tgt := 189) dX7_does_168 rfl (fun h9 => absurd h9 (by decide)) (fun _ => ?_)
      refine sw_aload_n (i := 0) dX7_does_171 rfl rfl ?_
      refine sw_aload_n (i := 0) dX7_does_172 rfl rfl ?_
      refine sx_getR (q := 73) f_X7_32 (by decide) kr_65_12 dX7_does_173 ?_
      refine sw_ic 0 dX7_does_176 ?_
      refine sx_ialdE (0) (nI (dn (sg f L (p + 1)))) t3 rfl rfl (by omega) dX7_does_177 ?_
      refine sw_ins (pc2 := 178) rfl rfl ?_
      refine px_Vx mv_X7_122 g1 rfl rfl (Nat.le_of_ble_eq_true rfl) (Nat.le_of_ble_eq_true rfl) ko_65 (Nat.le_of_ble_eq_true rfl) dX7_does_178 ?_
      refine sw_im1 dX7_does_181 ?_
      refine sw_ic_eq (tgt := 189) dX7_does_182 rfl (fun _ => ?_) (fun h9 => absurd rfl h9)
      refine sw_ic 0 dX7_does_189 ?_
      exact sw_zreturnE rfl rfl rfl dX7_does_190
    | some w =>
      obtain ⟨z, f9, e, t⟩ := w
      have hsm : t + e + f9 + z < 2 ^ 20 := hsm
      rw [show dkn (some (z, f9, e, t)) = nI 1 from rfl]
      refine sw_aload_n (i := 0) dX7_does_0 rfl rfl ?_
      refine sx_getIE (nI (sg f L p)) t1 f_X7_138 (by decide) kf_65_11 dX7_does_1 ?_
      refine sw_lookup (off := 154) (tgt := 158) dX7_does_4 (by decide) (by rw [c0]; decide) (by decide) ?_
      refine sw_aload_n (i := 0) dX7_does_158 rfl rfl ?_
      refine sw_aload_n (i := 0) dX7_does_159 rfl rfl ?_
      refine sx_getR (q := 73) f_X7_32 (by decide) kr_65_12 dX7_does_160 ?_
      refine sw_ic 0 dX7_does_163 ?_
      refine sw_ins (pc2 := 164) rfl rfl ?_
      refine sx_ialdE (0) (nI (dn (sg f L (p + 1)))) t3 rfl rfl (by omega) dX7_does_164 ?_
      refine px_Vx mv_X7_119 (A1_X7_isPromise okM hm) rfl rfl (Nat.le_of_ble_eq_true rfl) (Nat.le_of_ble_eq_true rfl) ko_65 (Nat.le_of_ble_eq_true rfl) dX7_does_165 ?_
      refine sw_if_eq (tgt := 189) dX7_does_168 rfl (fun h9 => absurd h9 (by decide)) (fun _ => ?_)
      refine sw_aload_n (i := 0) dX7_does_171 rfl rfl ?_
      refine sw_aload_n (i := 0) dX7_does_172 rfl rfl ?_
      refine sx_getR (q := 73) f_X7_32 (by decide) kr_65_12 dX7_does_173 ?_
      refine sw_ic 0 dX7_does_176 ?_
      refine sx_ialdE (0) (nI (dn (sg f L (p + 1)))) t3 rfl rfl (by omega) dX7_does_177 ?_
      refine sw_ins (pc2 := 178) rfl rfl ?_
      refine px_Vx mv_X7_122 g1 rfl rfl (Nat.le_of_ble_eq_true rfl) (Nat.le_of_ble_eq_true rfl) ko_65 (Nat.le_of_ble_eq_true rfl) dX7_does_178 ?_
      refine sw_im1 dX7_does_181 ?_
      refine sw_ic_eq (tgt := 189) dX7_does_182 rfl (fun h9 => absurd h9 (nI_ne_m1 (by omega))) (fun _ => ?_)
      refine sw_ic 1 dX7_does_185 ?_
      refine sw_goto (tgt := 190) dX7_does_186 rfl ?_
      exact sw_zreturnE rfl rfl rfl dX7_does_190
  · rw [if_neg hm, if_neg hm]
    refine ⟨d, op_of pl_X7_does (Nat.le_of_ble_eq_true rfl) ?_, rfl, fun c _ _ _ => rfl⟩
    refine sw_aload_n (i := 0) dX7_does_0 rfl rfl ?_
    refine sx_getIE (nI (sg f L p)) t1 f_X7_138 (by decide) kf_65_11 dX7_does_1 ?_
    refine sw_lookup (off := 154) (tgt := 158) dX7_does_4 (by decide) (by rw [c0]; decide) (by decide) ?_
    refine sw_aload_n (i := 0) dX7_does_158 rfl rfl ?_
    refine sw_aload_n (i := 0) dX7_does_159 rfl rfl ?_
    refine sx_getR (q := 73) f_X7_32 (by decide) kr_65_12 dX7_does_160 ?_
    refine sw_ic 0 dX7_does_163 ?_
    refine sw_ins (pc2 := 164) rfl rfl ?_
    refine sx_ialdE (0) (nI (dn (sg f L (p + 1)))) t3 rfl rfl (by omega) dX7_does_164 ?_
    refine px_Vx mv_X7_119 (A0_X7_isPromise okM (Or.inr (fun q => absurd (Int32.not_le.mpr q) (fun k => k (nI_le (by omega) (by omega)))))) rfl rfl (Nat.le_of_ble_eq_true rfl) (Nat.le_of_ble_eq_true rfl) ko_65 (Nat.le_of_ble_eq_true rfl) dX7_does_165 ?_
    refine sw_if_eq (tgt := 189) dX7_does_168 rfl (fun _ => ?_) (fun h9 => absurd (by decide) h9)
    refine sw_ic 0 dX7_does_189 ?_
    exact sw_zreturnE rfl rfl rfl dX7_does_190
set_option maxRecDepth 100000 in
set_option maxHeartbeats 4000000 in
theorem A_X7_does {d : Nat → Nat → Int32} {r : Nat → Nat → Option Nat} {J : Nat → Nat → Int64} {f : Nat → Int32} {L p : Nat} (ok : okV (mV d)) (h : tld d f L p) : ∃ d1, OP kX7_does yX7_does 6 [.ref 65] d r J (some (.int (doB (mV d) f L p))) d1 r J ∧ mV d1 = doV (mV d) f L p ∧ ∀ c, c ≠ 66 → c ≠ 71 → c ≠ 72 → d1 c = d c := by
  rcases h.2.1 with c0 | ⟨c0, c1, c2⟩ | ⟨c0, c1, c2, cn, ⟨s, s1, s2, s3⟩, u, u2, u3⟩ | ⟨c0, c1⟩
  · exact As_X7_does ok h c0
  · exact Ax_X7_does ok h c0 c1 c2
  · exact Ap_X7_does ok h c0 c1 c2 cn s1 s2 s3 u2 u3
  · exact Ak_X7_does ok h c0 c1
/-- where reading ends in a text that is not complete -/
def roE (f : Nat → Int32) (L q : Nat) : Prop := q ≤ L ∧ rnS f L q ≠ 12 ∧ (q < L → rnS f L (q + 1) = 12) ∧ rnS f L L ≠ 11
theorem rnS_12 {f : Nat → Int32} {L a : Nat} (h : rnS f L a = 12) : ∀ k, rnS f L (a + k) = 12
  | 0 => h
  | k + 1 => (rnS_st (rnS_12 h k)).trans rfl
theorem roF_E {f : Nat → Int32} {L q : Nat} (h : roF f L q) : roE f L q := by
  obtain ⟨h1, h2, h3, h4⟩ := h
  refine ⟨h1, h3, h4, ?_⟩
  by_cases c : q = L
  · subst c; exact h2
  · have := rnS_12 (h4 (by omega)) (L - (q + 1))
    rw [show q + 1 + (L - (q + 1)) = L by omega] at this
    rw [this]
    decide
theorem roE_11 {f : Nat → Int32} {L q : Nat} (hq : q < L) (h : rnS f L q = 11) (hc : sg f L q ≠ 59) : roE f L q := by
  have h1 : rnS f L (q + 1) = 12 := (rnS_st h).trans (if_neg (by omega))
  refine ⟨by omega, by rw [h]; decide, fun _ => h1, ?_⟩
  have := rnS_12 h1 (L - (q + 1))
  rw [show q + 1 + (L - (q + 1)) = L by omega] at this
  rw [this]
  decide
theorem rnS_59 {f : Nat → Int32} {L q : Nat} (h : rnS f L q = 11) (hc : sg f L q = 59) : rnS f L (q + 1) = 0 := (rnS_st h).trans (if_pos (by omega))
theorem nxG_q {f : Nat → Int32} {L q : Nat} : ∀ (k a : Nat), a ≤ q → a + k = L → q ≤ L → (∀ i, a ≤ i → i < q → sg f L i ≠ 59) → (q = L ∨ sg f L q = 59) → nxG f L k a = q
  | 0, a, h1, h2, h3, _, _ => by show a = q; omega
  | k + 1, a, h1, h2, h3, h4, h5 => by
    rw [nxG_s]
    by_cases c : a = q
    · subst c
      rcases h5 with h5 | h5
      · omega
      · rw [if_pos h5]
    · rw [if_neg (h4 a (Nat.le_refl _) (by omega))]
      exact nxG_q k (a + 1) (by omega) (by omega) h3 (fun i i1 i2 => h4 i (by omega) i2) h5
theorem erG_q {f : Nat → Int32} {L q : Nat} (h12 : rnS f L q ≠ 12) : ∀ (k a : Nat), a ≤ q → q ≤ a + k → (q = a + k ∨ rnS f L (q + 1) = 12) → erG f L k a = q
  | 0, a, h1, h2, _ => by show a = q; omega
  | k + 1, a, h1, h2, h3 => by
    rw [erG_s]
    by_cases c : a = q
    · subst c
      rw [if_pos (h3.resolve_left (by omega))]
    · rw [if_neg (fun h => h12 (by have := rnS_12 h (q - (a + 1)); rw [show a + 1 + (q - (a + 1)) = q by omega] at this; exact this))]
      exact erG_q h12 k (a + 1) (by omega) (by omega) (h3.imp (fun h => by omega) id)
/-- what reading a text leaves as it was -/
def rft (d d1 : Nat → Nat → Int32) : Prop := (∀ c, c ≠ 65 → c ≠ 66 → c ≠ 71 → c ≠ 72 → c ≠ 73 → d1 c = d c) ∧ ∀ j, j ≠ 10 → j ≠ 11 → j ≠ 13 → d1 65 j = d 65 j
theorem rft_refl (d : Nat → Nat → Int32) : rft d d := ⟨fun _ _ _ _ _ _ => rfl, fun _ _ _ _ => rfl⟩
theorem rft_tr {a b c : Nat → Nat → Int32} (h : rft a b) (g : rft b c) : rft a c := ⟨fun x h1 h2 h3 h4 h5 => (g.1 x h1 h2 h3 h4 h5).trans (h.1 x h1 h2 h3 h4 h5), fun j h1 h2 h3 => (g.2 j h1 h2 h3).trans (h.2 j h1 h2 h3)⟩
theorem rfr_rft {a b : Nat → Nat → Int32} (h : rfr a b) : rft a b := ⟨fun x h1 _ _ _ h5 => h.1 x h1 h5, fun j h1 h2 _ => h.2 j h1 h2⟩
theorem rft_n {a b : Nat → Nat → Int32} {x : Int32} (h : rft a b) : rft a (d2 b 65 13 x) := ⟨fun c h1 h2 h3 h4 h5 => (d2_off _ _ h1).trans (h.1 c h1 h2 h3 h4 h5), fun j h1 h2 h3 => (d2_ne _ _ (Or.inr h3)).trans (h.2 j h1 h2 h3)⟩
theorem rft_p {a b : Nat → Nat → Int32} {x : Int32} (h : rft a b) : rft a (d2 b 65 10 x) := ⟨fun c h1 h2 h3 h4 h5 => (d2_off _ _ h1).trans (h.1 c h1 h2 h3 h4 h5), fun j h1 h2 h3 => (d2_ne _ _ (Or.inr h1)).trans (h.2 j h1 h2 h3)⟩
theorem RT_n {d : Nat → Nat → Int32} {f : Nat → Int32} {L p : Nat} {x : Int32} (h : RT d f L p) : RT (d2 d 65 13 x) f L p := ⟨h.1, fun i hi => (congrFun (d2_off _ _ (by decide)) i).trans (h.2.1 i hi), (d2_ne _ _ (Or.inr (by decide))).trans h.2.2.1, (d2_ne _ _ (Or.inr (by decide))).trans h.2.2.2.1, h.2.2.2.2⟩
theorem RT_k {d d1 : Nat → Nat → Int32} {f : Nat → Int32} {L p : Nat} (h : RT d f L p) (e : ∀ c, c ≠ 66 → c ≠ 71 → c ≠ 72 → d1 c = d c) : RT d1 f L p := by
  have e1 := e 70 (by decide) (by decide) (by decide)
  have e2 := e 65 (by decide) (by decide) (by decide)
  exact ⟨h.1, fun i hi => (congrFun e1 i).trans (h.2.1 i hi), (congrFun e2 6).trans h.2.2.1, (congrFun e2 10).trans h.2.2.2.1, h.2.2.2.2⟩
theorem rft_k {d d1 : Nat → Nat → Int32} (e : ∀ c, c ≠ 66 → c ≠ 71 → c ≠ 72 → d1 c = d c) : rft d d1 := ⟨fun c _ h2 h3 h4 _ => e c h2 h3 h4, fun j _ _ _ => congrFun (e 65 (by decide) (by decide) (by decide)) j⟩
set_option maxRecDepth 100000 in
set_option maxHeartbeats 4000000 in
theorem B0_X7_readText {r : Nat → Nat → Option Nat} {J : Nat → Nat → Int64} {f : Nat → Int32} {L : Nat} : ∀ (k : Nat) (D : Nat → Nat → Int32) (q mm : Nat), L - q < k → RT D f L q → rnS f L q = 11 → q ≤ L → D 65 13 = nI mm → ∃ d1 e q1, SW yX7_readText cX7_readText 3 (some .boolean) [] 7 none 15 [some (.ref 65), some (.int (nI 0)), some (.int (nI 1))] [] 75 (W0 D r J) 0 0 (.inl (some (.int (nI e)))) 75 (W0 d1 r J) ∧ rft D d1 ∧ mV d1 = mV D ∧ RT d1 f L q1 ∧ ((e = 1 ∧ rnS f L L = 11) ∨ (e = 0 ∧ roE f L q1))
  | 0, D, q, mm, hk, h, hs, hq, hn => absurd hk (by omega)
  | k + 1, D, q, mm, hk, h, hs, hq, hn => by
    have h60 := RT_60 h
    have h1 : RT (d2 D 65 13 (nI (mm + 1))) f L q := RT_n h
    have f1 : rft D (d2 D 65 13 (nI (mm + 1))) := rft_n (rft_refl D)
    have v1 : mV (d2 D 65 13 (nI (mm + 1))) = mV D := mV_keep (d2_off _ _ (by decide))
    by_cases c1 : q = L
    · refine ⟨_, 1, q, ?_, f1, v1, h1, Or.inl ⟨rfl, by rw [c1] at hs; exact hs⟩⟩
      refine sw_iload_n (i := 2) dX7_readText_15 rfl rfl ?_
      refine sw_if_eq (tgt := 80) dX7_readText_16 rfl (fun h9 => absurd h9 (by decide)) (fun _ => ?_)
      refine sw_iload_n (i := 1) dX7_readText_19 rfl rfl ?_
      refine sw_if_eq (tgt := 32) dX7_readText_20 rfl (fun _ => ?_) (fun h9 => absurd (by decide) h9)
      refine sw_aload_n (i := 0) dX7_readText_32 rfl rfl ?_
      refine sw_dup dX7_readText_33 rfl ?_
      refine sx_getIE (nI mm) hn f_X7_151 (by decide) kf_65_13 dX7_readText_34 ?_
      refine sw_ins (pc2 := 37) rfl rfl ?_
      refine sw_ic 1 dX7_readText_37 ?_
      refine sw_iadd dX7_readText_38 ?_
      refine sw_topE (v := nI (mm + 1)) (nI_1 mm) ?_
      refine sx_putI fp_X7_151 (by decide) kf_65_13 dX7_readText_39 ?_
      refine sw_aload_n (i := 0) dX7_readText_42 rfl rfl ?_
      refine sx_getIE (nI q) h1.2.2.2.1 f_X7_128 (by decide) kf_65_10 dX7_readText_43 ?_
      refine sw_aload_n (i := 0) dX7_readText_46 rfl rfl ?_
      refine sx_getIE (nI L) h1.2.2.1 f_X7_125 (by decide) kf_65_6 dX7_readText_47 ?_
      refine sw_ic_ne (tgt := 55) dX7_readText_50 rfl (fun h9 => absurd (by rw [c1]) h9) (fun _ => ?_)
      refine sw_ins (pc2 := 53) rfl rfl ?_
      refine sw_ic 1 dX7_readText_53 ?_
      exact sw_zreturnE rfl rfl rfl dX7_readText_54
    · by_cases c2 : sg f L q = 59
      · have hs2 := rnS_59 hs c2
        have h2 : RT (d2 (d2 D 65 13 (nI (mm + 1))) 65 10 (nI (q + 1))) f L (q + 1) := RT_p h1 (by omega)
        have f2 := rft_p (x := nI (q + 1)) f1
        have v2 : mV (d2 (d2 D 65 13 (nI (mm + 1))) 65 10 (nI (q + 1))) = mV D := (mV_keep (d2_off _ _ (by decide))).trans v1
        have T2 := A1_X7_takes (r := r) (J := J) h1 (c := 59) (by decide) (by decide) c2
        obtain ⟨E, q1, g1, g2, g3⟩ := A_X7_readOrder (r := r) (J := J) h2 (by omega) hs2
        have g66 : mV E = mV D := (mV_keep (g2.1 66 (by decide) (by decide))).trans v2
        have fE := rft_tr f2 (rfr_rft g2)
        have nE : E 65 13 = nI (mm + 1) := (g2.2 13 (by decide) (by decide)).trans ((d2_ne _ _ (Or.inr (by decide))).trans (d2_eq _ _ _ _))
        rcases g3 with ⟨g3, g4, g5⟩ | ⟨g3, g4⟩
        · obtain ⟨d1, e, q2, a1, a2, a3, a4, a5⟩ := B0_X7_readText (r := r) (J := J) k E q1 (mm + 1) (by have := g4.2.1; omega) g1 g4.1 g4.2.2.1 nE
          refine ⟨d1, e, q2, ?_, rft_tr fE a2, a3.trans g66, a4, a5⟩
          refine sw_iload_n (i := 2) dX7_readText_15 rfl rfl ?_
          refine sw_if_eq (tgt := 80) dX7_readText_16 rfl (fun h9 => absurd h9 (by decide)) (fun _ => ?_)
          refine sw_iload_n (i := 1) dX7_readText_19 rfl rfl ?_
          refine sw_if_eq (tgt := 32) dX7_readText_20 rfl (fun _ => ?_) (fun h9 => absurd (by decide) h9)
          refine sw_aload_n (i := 0) dX7_readText_32 rfl rfl ?_
          refine sw_dup dX7_readText_33 rfl ?_
          refine sx_getIE (nI mm) hn f_X7_151 (by decide) kf_65_13 dX7_readText_34 ?_
          refine sw_ins (pc2 := 37) rfl rfl ?_
          refine sw_ic 1 dX7_readText_37 ?_
          refine sw_iadd dX7_readText_38 ?_
          refine sw_topE (v := nI (mm + 1)) (nI_1 mm) ?_
          refine sx_putI fp_X7_151 (by decide) kf_65_13 dX7_readText_39 ?_
          refine sw_aload_n (i := 0) dX7_readText_42 rfl rfl ?_
          refine sx_getIE (nI q) h1.2.2.2.1 f_X7_128 (by decide) kf_65_10 dX7_readText_43 ?_
          refine sw_aload_n (i := 0) dX7_readText_46 rfl rfl ?_
          refine sx_getIE (nI L) h1.2.2.1 f_X7_125 (by decide) kf_65_6 dX7_readText_47 ?_
          refine sw_ic_ne (tgt := 55) dX7_readText_50 rfl (fun _ => ?_) (fun h9 => absurd h9 (fun q9 => c1 ((nI_eq (by omega) (by omega)).mp q9)))
          refine sw_ins (pc2 := 55) rfl rfl ?_
          refine sw_aload_n (i := 0) dX7_readText_55 rfl rfl ?_
          refine sw_bi 59 dX7_readText_56 (by decide +kernel) ?_
          refine px_Vx mv_X7_145 T2 rfl rfl (Nat.le_of_ble_eq_true rfl) (Nat.le_of_ble_eq_true rfl) ko_65 (Nat.le_of_ble_eq_true rfl) dX7_readText_58 ?_
          refine sw_if_eq (tgt := 75) dX7_readText_61 rfl (fun h9 => absurd h9 (by decide)) (fun _ => ?_)
          refine sw_aload_n (i := 0) dX7_readText_64 rfl rfl ?_
          refine px_Vx mv_X7_154 g3 rfl rfl (Nat.le_of_ble_eq_true rfl) (Nat.le_of_ble_eq_true rfl) ko_65 (Nat.le_of_ble_eq_true rfl) dX7_readText_65 ?_
          refine sw_if_eq (tgt := 75) dX7_readText_68 rfl (fun h9 => absurd h9 (by decide)) (fun _ => ?_)
          refine sw_ic 1 dX7_readText_71 ?_
          refine sw_ins (pc2 := 72) rfl rfl ?_
          refine sw_goto (tgt := 76) dX7_readText_72 rfl ?_
          refine sw_istore_n (i := 2) dX7_readText_76 rfl (Nat.le_of_ble_eq_true rfl) rfl ?_
          refine sw_lo (lo2 := [some (.ref 65), some (.int _), some (.int _)]) rfl ?_
          refine sw_goto (tgt := 15) dX7_readText_77 rfl ?_
          exact a1
        · refine ⟨E, 0, q1, ?_, fE, g66, g1, Or.inr ⟨rfl, roF_E g4⟩⟩
          refine sw_iload_n (i := 2) dX7_readText_15 rfl rfl ?_
          refine sw_if_eq (tgt := 80) dX7_readText_16 rfl (fun h9 => absurd h9 (by decide)) (fun _ => ?_)
          refine sw_iload_n (i := 1) dX7_readText_19 rfl rfl ?_
          refine sw_if_eq (tgt := 32) dX7_readText_20 rfl (fun _ => ?_) (fun h9 => absurd (by decide) h9)
          refine sw_aload_n (i := 0) dX7_readText_32 rfl rfl ?_
          refine sw_dup dX7_readText_33 rfl ?_
          refine sx_getIE (nI mm) hn f_X7_151 (by decide) kf_65_13 dX7_readText_34 ?_
          refine sw_ins (pc2 := 37) rfl rfl ?_
          refine sw_ic 1 dX7_readText_37 ?_
          refine sw_iadd dX7_readText_38 ?_
          refine sw_topE (v := nI (mm + 1)) (nI_1 mm) ?_
          refine sx_putI fp_X7_151 (by decide) kf_65_13 dX7_readText_39 ?_
          refine sw_aload_n (i := 0) dX7_readText_42 rfl rfl ?_
          refine sx_getIE (nI q) h1.2.2.2.1 f_X7_128 (by decide) kf_65_10 dX7_readText_43 ?_
          refine sw_aload_n (i := 0) dX7_readText_46 rfl rfl ?_
          refine sx_getIE (nI L) h1.2.2.1 f_X7_125 (by decide) kf_65_6 dX7_readText_47 ?_
          refine sw_ic_ne (tgt := 55) dX7_readText_50 rfl (fun _ => ?_) (fun h9 => absurd h9 (fun q9 => c1 ((nI_eq (by omega) (by omega)).mp q9)))
          refine sw_ins (pc2 := 55) rfl rfl ?_
          refine sw_aload_n (i := 0) dX7_readText_55 rfl rfl ?_
          refine sw_bi 59 dX7_readText_56 (by decide +kernel) ?_
          refine px_Vx mv_X7_145 T2 rfl rfl (Nat.le_of_ble_eq_true rfl) (Nat.le_of_ble_eq_true rfl) ko_65 (Nat.le_of_ble_eq_true rfl) dX7_readText_58 ?_
          refine sw_if_eq (tgt := 75) dX7_readText_61 rfl (fun h9 => absurd h9 (by decide)) (fun _ => ?_)
          refine sw_aload_n (i := 0) dX7_readText_64 rfl rfl ?_
          refine px_Vx mv_X7_154 g3 rfl rfl (Nat.le_of_ble_eq_true rfl) (Nat.le_of_ble_eq_true rfl) ko_65 (Nat.le_of_ble_eq_true rfl) dX7_readText_65 ?_
          refine sw_if_eq (tgt := 75) dX7_readText_68 rfl (fun _ => ?_) (fun h9 => absurd (by decide) h9)
          refine sw_ic 0 dX7_readText_75 ?_
          refine sw_ins (pc2 := 76) rfl rfl ?_
          refine sw_istore_n (i := 2) dX7_readText_76 rfl (Nat.le_of_ble_eq_true rfl) rfl ?_
          refine sw_lo (lo2 := [some (.ref 65), some (.int _), some (.int _)]) rfl ?_
          refine sw_goto (tgt := 15) dX7_readText_77 rfl ?_
          refine sw_iload_n (i := 2) dX7_readText_15 rfl rfl ?_
          refine sw_if_eq (tgt := 80) dX7_readText_16 rfl (fun _ => ?_) (fun h9 => absurd (by decide) h9)
          refine sw_ic 0 dX7_readText_80 ?_
          exact sw_zreturnE rfl rfl rfl dX7_readText_81
      · have T2 := A0_X7_takes (r := r) (J := J) h1 (c := 59) (by decide) (by decide) c2
        refine ⟨_, 0, q, ?_, rft_p (x := nI q) f1, (mV_keep (d2_off _ _ (by decide))).trans v1, RT_p h1 (by omega), Or.inr ⟨rfl, roE_11 (by omega) hs c2⟩⟩
        refine sw_iload_n (i := 2) dX7_readText_15 rfl rfl ?_
        refine sw_if_eq (tgt := 80) dX7_readText_16 rfl (fun h9 => absurd h9 (by decide)) (fun _ => ?_)
        refine sw_iload_n (i := 1) dX7_readText_19 rfl rfl ?_
        refine sw_if_eq (tgt := 32) dX7_readText_20 rfl (fun _ => ?_) (fun h9 => absurd (by decide) h9)
        refine sw_aload_n (i := 0) dX7_readText_32 rfl rfl ?_
        refine sw_dup dX7_readText_33 rfl ?_
        refine sx_getIE (nI mm) hn f_X7_151 (by decide) kf_65_13 dX7_readText_34 ?_
        refine sw_ins (pc2 := 37) rfl rfl ?_
        refine sw_ic 1 dX7_readText_37 ?_
        refine sw_iadd dX7_readText_38 ?_
        refine sw_topE (v := nI (mm + 1)) (nI_1 mm) ?_
        refine sx_putI fp_X7_151 (by decide) kf_65_13 dX7_readText_39 ?_
        refine sw_aload_n (i := 0) dX7_readText_42 rfl rfl ?_
        refine sx_getIE (nI q) h1.2.2.2.1 f_X7_128 (by decide) kf_65_10 dX7_readText_43 ?_
        refine sw_aload_n (i := 0) dX7_readText_46 rfl rfl ?_
        refine sx_getIE (nI L) h1.2.2.1 f_X7_125 (by decide) kf_65_6 dX7_readText_47 ?_
        refine sw_ic_ne (tgt := 55) dX7_readText_50 rfl (fun _ => ?_) (fun h9 => absurd h9 (fun q9 => c1 ((nI_eq (by omega) (by omega)).mp q9)))
        refine sw_ins (pc2 := 55) rfl rfl ?_
        refine sw_aload_n (i := 0) dX7_readText_55 rfl rfl ?_
        refine sw_bi 59 dX7_readText_56 (by decide +kernel) ?_
        refine px_Vx mv_X7_145 T2 rfl rfl (Nat.le_of_ble_eq_true rfl) (Nat.le_of_ble_eq_true rfl) ko_65 (Nat.le_of_ble_eq_true rfl) dX7_readText_58 ?_
        refine sw_if_eq (tgt := 75) dX7_readText_61 rfl (fun _ => ?_) (fun h9 => absurd (by decide) h9)
        refine sw_ic 0 dX7_readText_75 ?_
        refine sw_istore_n (i := 2) dX7_readText_76 rfl (Nat.le_of_ble_eq_true rfl) rfl ?_
        refine sw_lo (lo2 := [some (.ref 65), some (.int _), some (.int _)]) rfl ?_
        refine sw_goto (tgt := 15) dX7_readText_77 rfl ?_
        refine sw_iload_n (i := 2) dX7_readText_15 rfl rfl ?_
        refine sw_ins (pc2 := 16) rfl rfl ?_
        refine sw_if_eq (tgt := 80) dX7_readText_16 rfl (fun _ => ?_) (fun h9 => absurd (by decide) h9)
        refine sw_ic 0 dX7_readText_80 ?_
        exact sw_zreturnE rfl rfl rfl dX7_readText_81
set_option maxRecDepth 100000 in
set_option maxHeartbeats 4000000 in
theorem A0_X7_readText {d : Nat → Nat → Int32} {r : Nat → Nat → Option Nat} {J : Nat → Nat → Int64} {f : Nat → Int32} {L : Nat} (ok : okT f L) (hT : ∀ i, i < L → d 70 i = f i) (hL : d 65 6 = nI L) : ∃ d1 e q1, OP kX7_readText yX7_readText 7 [.ref 65, .int (nI 0)] d r J (some (.int (nI e))) d1 r J ∧ rft d d1 ∧ mV d1 = mV d ∧ RT d1 f L q1 ∧ ((e = 1 ∧ rnS f L L = 11) ∨ (e = 0 ∧ roE f L q1)) := by
  obtain ⟨E0, hE0⟩ : ∃ E, E = d2 (d2 d 65 10 (nI 0)) 65 13 (nI 0) := ⟨_, rfl⟩
  have h0 : RT E0 f L 0 := by rw [hE0]; exact RT_n ⟨ok, fun i hi => (congrFun (d2_off _ _ (by decide)) i).trans (hT i hi), (d2_ne _ _ (Or.inr (by decide))).trans hL, d2_eq _ _ _ _, by decide⟩
  have f0 : rft d E0 := by rw [hE0]; exact rft_n (rft_p (rft_refl d))
  have v0 : mV E0 = mV d := by rw [hE0]; exact (mV_keep (d2_off _ _ (by decide))).trans (mV_keep (d2_off _ _ (by decide)))
  have n0 : E0 65 13 = nI 0 := by rw [hE0]; exact d2_eq _ _ _ _
  obtain ⟨E, q1, g1, g2, g3⟩ := A_X7_readOrder (r := r) (J := J) h0 (Nat.zero_le _) rfl
  have nE : E 65 13 = nI 0 := (g2.2 13 (by decide) (by decide)).trans n0
  have vE : mV E = mV d := (mV_keep (g2.1 66 (by decide) (by decide))).trans v0
  rcases g3 with ⟨g3, g4, g5⟩ | ⟨g3, g4⟩
  · obtain ⟨d1, e, q2, a1, a2, a3, a4, a5⟩ := B0_X7_readText (r := r) (J := J) (L + 1) E q1 0 (by omega) g1 g4.1 g4.2.2.1 nE
    refine ⟨d1, e, q2, op_of pl_X7_readText (Nat.le_of_ble_eq_true rfl) ?_, rft_tr (rft_tr f0 (rfr_rft g2)) a2, a3.trans vE, a4, a5⟩
    refine sw_aload_n (i := 0) dX7_readText_0 rfl rfl ?_
    refine sw_ic 0 dX7_readText_1 ?_
    refine sx_putI fp_X7_128 (by decide) kf_65_10 dX7_readText_2 ?_
    refine sw_aload_n (i := 0) dX7_readText_5 rfl rfl ?_
    refine sw_ic 0 dX7_readText_6 ?_
    refine sx_putI fp_X7_151 (by decide) kf_65_13 dX7_readText_7 ?_
    rw [← hE0]
    refine sw_aload_n (i := 0) dX7_readText_10 rfl rfl ?_
    refine sw_ins (pc2 := 11) rfl rfl ?_
    refine px_Vx mv_X7_154 g3 rfl rfl (Nat.le_of_ble_eq_true rfl) (Nat.le_of_ble_eq_true rfl) ko_65 (Nat.le_of_ble_eq_true rfl) dX7_readText_11 ?_
    refine sw_istore_n (i := 2) dX7_readText_14 rfl (Nat.le_of_ble_eq_true rfl) rfl ?_
    refine sw_lo (lo2 := [some (.ref 65), some (.int _), some (.int _)]) rfl ?_
    exact a1
  · refine ⟨E, 0, q1, op_of pl_X7_readText (Nat.le_of_ble_eq_true rfl) ?_, rft_tr f0 (rfr_rft g2), vE, g1, Or.inr ⟨rfl, roF_E g4⟩⟩
    refine sw_aload_n (i := 0) dX7_readText_0 rfl rfl ?_
    refine sw_ic 0 dX7_readText_1 ?_
    refine sx_putI fp_X7_128 (by decide) kf_65_10 dX7_readText_2 ?_
    refine sw_aload_n (i := 0) dX7_readText_5 rfl rfl ?_
    refine sw_ic 0 dX7_readText_6 ?_
    refine sx_putI fp_X7_151 (by decide) kf_65_13 dX7_readText_7 ?_
    rw [← hE0]
    refine sw_aload_n (i := 0) dX7_readText_10 rfl rfl ?_
    refine sw_ins (pc2 := 11) rfl rfl ?_
    refine px_Vx mv_X7_154 g3 rfl rfl (Nat.le_of_ble_eq_true rfl) (Nat.le_of_ble_eq_true rfl) ko_65 (Nat.le_of_ble_eq_true rfl) dX7_readText_11 ?_
    refine sw_istore_n (i := 2) dX7_readText_14 rfl (Nat.le_of_ble_eq_true rfl) rfl ?_
    refine sw_lo (lo2 := [some (.ref 65), some (.int _), some (.int _)]) rfl ?_
    refine sw_iload_n (i := 2) dX7_readText_15 rfl rfl ?_
    refine sw_if_eq (tgt := 80) dX7_readText_16 rfl (fun _ => ?_) (fun h9 => absurd (by decide) h9)
    refine sw_ic 0 dX7_readText_80 ?_
    exact sw_zreturnE rfl rfl rfl dX7_readText_81
set_option maxRecDepth 100000 in
set_option maxHeartbeats 4000000 in
theorem B1_X7_readText {r : Nat → Nat → Option Nat} {J : Nat → Nat → Int64} {f : Nat → Int32} {L : Nat} (hE : rnS f L L = 11) : ∀ (k : Nat) (D : Nat → Nat → Int32) (p q mm : Nat), L - p < k → RT D f L q → roT f L p q → tld D f L p → okV (mV D) → D 65 13 = nI mm → ∃ d1, SW yX7_readText cX7_readText 3 (some .boolean) [] 7 none 15 [some (.ref 65), some (.int (nI 1)), some (.int (nI 1))] [] 75 (W0 D r J) 0 0 (.inl (some (.int (nI 1)))) 75 (W0 d1 r J) ∧ rft D d1 ∧ mV d1 = (rnG f L k (mV D) p mm).1 ∧ d1 65 13 = nI (rnG f L k (mV D) p mm).2
  | 0, D, p, q, mm, hk, h, hr, ht, ok, hn => absurd hk (by omega)
  | k + 1, D, p, q, mm, hk, h, hr, ht, ok, hn => by
    have h60 := RT_60 h
    obtain ⟨hr1, hr2, hr3, hr4⟩ := id hr
    obtain ⟨E1, b1, b2, b3⟩ := A_X7_does (r := r) (J := J) ok ht
    have hpL : p < L := by omega
    rw [rnG_s, if_pos hpL]
    have f1 : rft D E1 := rft_k b3
    have hn1 : E1 65 13 = nI mm := (congrFun (b3 65 (by decide) (by decide) (by decide)) 13).trans hn
    have h1 : RT E1 f L q := RT_k h b3
    rcases doB_01 (mV D) f L p with d0 | d0
    · rw [if_neg (by rw [d0]; decide)]
      rw [d0] at b1
      refine ⟨E1, ?_, f1, b2, hn1⟩
      refine sw_iload_n (i := 2) dX7_readText_15 rfl rfl ?_
      refine sw_if_eq (tgt := 80) dX7_readText_16 rfl (fun h9 => absurd h9 (by decide)) (fun _ => ?_)
      refine sw_iload_n (i := 1) dX7_readText_19 rfl rfl ?_
      refine sw_if_eq (tgt := 32) dX7_readText_20 rfl (fun h9 => absurd h9 (by decide)) (fun _ => ?_)
      refine sw_aload_n (i := 0) dX7_readText_23 rfl rfl ?_
      refine px_Vx mv_X7_157 b1 rfl rfl (Nat.le_of_ble_eq_true rfl) (Nat.le_of_ble_eq_true rfl) ko_65 (Nat.le_of_ble_eq_true rfl) dX7_readText_24 ?_
      refine sw_if_ne (tgt := 32) dX7_readText_27 rfl (fun h9 => absurd (by decide) h9) (fun _ => ?_)
      refine sw_ins (pc2 := 30) rfl rfl ?_
      refine sw_ic 1 dX7_readText_30 ?_
      exact sw_zreturnE rfl rfl rfl dX7_readText_31
    · rw [if_pos d0]
      rw [d0] at b1
      have h2 : RT (d2 E1 65 13 (nI (mm + 1))) f L q := RT_n h1
      have f2 : rft D (d2 E1 65 13 (nI (mm + 1))) := rft_n f1
      have v2 : mV (d2 E1 65 13 (nI (mm + 1))) = doV (mV D) f L p := (mV_keep (d2_off _ _ (by decide))).trans b2
      by_cases c1 : q = L
      · have hx : nxG f L (L - p) p = L := nxG_q _ _ (by omega) (by omega) (Nat.le_refl _) (fun i i1 i2 => hr4 i i1 (by omega)) (Or.inl rfl)
        have hz : ∀ k, rnG f L k (doV (mV D) f L p) (L + 1) (mm + 1) = (doV (mV D) f L p, mm + 1) := by
          intro k
          cases k with
          | zero => rfl
          | succ k => rw [rnG_s, if_neg (by omega)]
        rw [hx, hz]
        refine ⟨_, ?_, f2, v2, d2_eq _ _ _ _⟩
        refine sw_iload_n (i := 2) dX7_readText_15 rfl rfl ?_
        refine sw_if_eq (tgt := 80) dX7_readText_16 rfl (fun h9 => absurd h9 (by decide)) (fun _ => ?_)
        refine sw_iload_n (i := 1) dX7_readText_19 rfl rfl ?_
        refine sw_if_eq (tgt := 32) dX7_readText_20 rfl (fun h9 => absurd h9 (by decide)) (fun _ => ?_)
        refine sw_aload_n (i := 0) dX7_readText_23 rfl rfl ?_
        refine px_Vx mv_X7_157 b1 rfl rfl (Nat.le_of_ble_eq_true rfl) (Nat.le_of_ble_eq_true rfl) ko_65 (Nat.le_of_ble_eq_true rfl) dX7_readText_24 ?_
        refine sw_if_ne (tgt := 32) dX7_readText_27 rfl (fun _ => ?_) (fun h9 => absurd h9 (by decide))
        refine sw_ins (pc2 := 32) rfl rfl ?_
        refine sw_aload_n (i := 0) dX7_readText_32 rfl rfl ?_
        refine sw_dup dX7_readText_33 rfl ?_
        refine sx_getIE (nI mm) hn1 f_X7_151 (by decide) kf_65_13 dX7_readText_34 ?_
        refine sw_ic 1 dX7_readText_37 ?_
        refine sw_iadd dX7_readText_38 ?_
        refine sw_topE (v := nI (mm + 1)) (nI_1 mm) ?_
        refine sx_putI fp_X7_151 (by decide) kf_65_13 dX7_readText_39 ?_
        refine sw_aload_n (i := 0) dX7_readText_42 rfl rfl ?_
        refine sx_getIE (nI q) h2.2.2.2.1 f_X7_128 (by decide) kf_65_10 dX7_readText_43 ?_
        refine sw_ins (pc2 := 46) rfl rfl ?_
        refine sw_aload_n (i := 0) dX7_readText_46 rfl rfl ?_
        refine sx_getIE (nI L) h2.2.2.1 f_X7_125 (by decide) kf_65_6 dX7_readText_47 ?_
        refine sw_ic_ne (tgt := 55) dX7_readText_50 rfl (fun h9 => absurd (by rw [c1]) h9) (fun _ => ?_)
        refine sw_ic 1 dX7_readText_53 ?_
        exact sw_zreturnE rfl rfl rfl dX7_readText_54
      · have c2 : sg f L q = 59 := by
          by_cases c : sg f L q = 59
          · exact c
          · exact absurd hE (roE_11 (by omega) hr1 c).2.2.2
        have hx : nxG f L (L - p) p = q := nxG_q _ _ (by omega) (by omega) hr3 hr4 (Or.inr c2)
        rw [hx]
        have hs2 := rnS_59 hr1 c2
        have h3 : RT (d2 (d2 E1 65 13 (nI (mm + 1))) 65 10 (nI (q + 1))) f L (q + 1) := RT_p h2 (by omega)
        have f3 := rft_p (x := nI (q + 1)) f2
        have v3 : mV (d2 (d2 E1 65 13 (nI (mm + 1))) 65 10 (nI (q + 1))) = doV (mV D) f L p := (mV_keep (d2_off _ _ (by decide))).trans v2
        have T2 := A1_X7_takes (r := r) (J := J) h2 (c := 59) (by decide) (by decide) c2
        obtain ⟨E, q1, g1, g2, g3⟩ := A_X7_readOrder (r := r) (J := J) h3 (by omega) hs2
        have g66 : mV E = doV (mV D) f L p := (mV_keep (g2.1 66 (by decide) (by decide))).trans v3
        have nE : E 65 13 = nI (mm + 1) := (g2.2 13 (by decide) (by decide)).trans ((d2_ne _ _ (Or.inr (by decide))).trans (d2_eq _ _ _ _))
        rcases g3 with ⟨g3, g4, g5⟩ | ⟨g3, g4⟩
        · have okE : okV (mV E) := by rw [g66]; exact ok_doV ok ht.2.1
          obtain ⟨d1, a1, a2, a3, a4⟩ := B1_X7_readText (r := r) (J := J) hE k E (q + 1) q1 (mm + 1) (by omega) g1 g4 g5 okE nE
          rw [g66] at a3 a4
          refine ⟨d1, ?_, rft_tr (rft_tr f3 (rfr_rft g2)) a2, a3, a4⟩
          refine sw_iload_n (i := 2) dX7_readText_15 rfl rfl ?_
          refine sw_if_eq (tgt := 80) dX7_readText_16 rfl (fun h9 => absurd h9 (by decide)) (fun _ => ?_)
          refine sw_iload_n (i := 1) dX7_readText_19 rfl rfl ?_
          refine sw_if_eq (tgt := 32) dX7_readText_20 rfl (fun h9 => absurd h9 (by decide)) (fun _ => ?_)
          refine sw_aload_n (i := 0) dX7_readText_23 rfl rfl ?_
          refine px_Vx mv_X7_157 b1 rfl rfl (Nat.le_of_ble_eq_true rfl) (Nat.le_of_ble_eq_true rfl) ko_65 (Nat.le_of_ble_eq_true rfl) dX7_readText_24 ?_
          refine sw_if_ne (tgt := 32) dX7_readText_27 rfl (fun _ => ?_) (fun h9 => absurd h9 (by decide))
          refine sw_ins (pc2 := 32) rfl rfl ?_
          refine sw_aload_n (i := 0) dX7_readText_32 rfl rfl ?_
          refine sw_dup dX7_readText_33 rfl ?_
          refine sx_getIE (nI mm) hn1 f_X7_151 (by decide) kf_65_13 dX7_readText_34 ?_
          refine sw_ic 1 dX7_readText_37 ?_
          refine sw_iadd dX7_readText_38 ?_
          refine sw_topE (v := nI (mm + 1)) (nI_1 mm) ?_
          refine sx_putI fp_X7_151 (by decide) kf_65_13 dX7_readText_39 ?_
          refine sw_aload_n (i := 0) dX7_readText_42 rfl rfl ?_
          refine sx_getIE (nI q) h2.2.2.2.1 f_X7_128 (by decide) kf_65_10 dX7_readText_43 ?_
          refine sw_ins (pc2 := 46) rfl rfl ?_
          refine sw_aload_n (i := 0) dX7_readText_46 rfl rfl ?_
          refine sx_getIE (nI L) h2.2.2.1 f_X7_125 (by decide) kf_65_6 dX7_readText_47 ?_
          refine sw_ic_ne (tgt := 55) dX7_readText_50 rfl (fun _ => ?_) (fun h9 => absurd h9 (fun q9 => c1 ((nI_eq (by omega) (by omega)).mp q9)))
          refine sw_aload_n (i := 0) dX7_readText_55 rfl rfl ?_
          refine sw_bi 59 dX7_readText_56 (by decide +kernel) ?_
          refine px_Vx mv_X7_145 T2 rfl rfl (Nat.le_of_ble_eq_true rfl) (Nat.le_of_ble_eq_true rfl) ko_65 (Nat.le_of_ble_eq_true rfl) dX7_readText_58 ?_
          refine sw_if_eq (tgt := 75) dX7_readText_61 rfl (fun h9 => absurd h9 (by decide)) (fun _ => ?_)
          refine sw_aload_n (i := 0) dX7_readText_64 rfl rfl ?_
          refine sw_ins (pc2 := 65) rfl rfl ?_
          refine px_Vx mv_X7_154 g3 rfl rfl (Nat.le_of_ble_eq_true rfl) (Nat.le_of_ble_eq_true rfl) ko_65 (Nat.le_of_ble_eq_true rfl) dX7_readText_65 ?_
          refine sw_if_eq (tgt := 75) dX7_readText_68 rfl (fun h9 => absurd h9 (by decide)) (fun _ => ?_)
          refine sw_ic 1 dX7_readText_71 ?_
          refine sw_goto (tgt := 76) dX7_readText_72 rfl ?_
          refine sw_istore_n (i := 2) dX7_readText_76 rfl (Nat.le_of_ble_eq_true rfl) rfl ?_
          refine sw_lo (lo2 := [some (.ref 65), some (.int _), some (.int _)]) rfl ?_
          refine sw_goto (tgt := 15) dX7_readText_77 rfl ?_
          exact a1
        · exact absurd hE (roF_E g4).2.2.2
set_option maxRecDepth 100000 in
set_option maxHeartbeats 4000000 in
theorem A1_X7_readText {d : Nat → Nat → Int32} {r : Nat → Nat → Option Nat} {J : Nat → Nat → Int64} {f : Nat → Int32} {L : Nat} (ok : okT f L) (hT : ∀ i, i < L → d 70 i = f i) (hL : d 65 6 = nI L) (hE : rnS f L L = 11) (okv : okV (mV d)) : ∃ d1, OP kX7_readText yX7_readText 7 [.ref 65, .int (nI 1)] d r J (some (.int (nI 1))) d1 r J ∧ rft d d1 ∧ mV d1 = (rnG f L (L + 1) (mV d) 0 0).1 ∧ d1 65 13 = nI (rnG f L (L + 1) (mV d) 0 0).2 := by
  obtain ⟨E0, hE0⟩ : ∃ E, E = d2 (d2 d 65 10 (nI 0)) 65 13 (nI 0) := ⟨_, rfl⟩
  have h0 : RT E0 f L 0 := by rw [hE0]; exact RT_n ⟨ok, fun i hi => (congrFun (d2_off _ _ (by decide)) i).trans (hT i hi), (d2_ne _ _ (Or.inr (by decide))).trans hL, d2_eq _ _ _ _, by decide⟩
  have f0 : rft d E0 := by rw [hE0]; exact rft_n (rft_p (rft_refl d))
  have v0 : mV E0 = mV d := by rw [hE0]; exact (mV_keep (d2_off _ _ (by decide))).trans (mV_keep (d2_off _ _ (by decide)))
  have n0 : E0 65 13 = nI 0 := by rw [hE0]; exact d2_eq _ _ _ _
  obtain ⟨E, q1, g1, g2, g3⟩ := A_X7_readOrder (r := r) (J := J) h0 (Nat.zero_le _) rfl
  have nE : E 65 13 = nI 0 := (g2.2 13 (by decide) (by decide)).trans n0
  have vE : mV E = mV d := (mV_keep (g2.1 66 (by decide) (by decide))).trans v0
  rcases g3 with ⟨g3, g4, g5⟩ | ⟨g3, g4⟩
  · obtain ⟨d1, a1, a2, a3, a4⟩ := B1_X7_readText (r := r) (J := J) hE (L + 1) E 0 q1 0 (by omega) g1 g4 g5 (by rw [vE]; exact okv) nE
    rw [vE] at a3 a4
    refine ⟨d1, op_of pl_X7_readText (Nat.le_of_ble_eq_true rfl) ?_, rft_tr (rft_tr f0 (rfr_rft g2)) a2, a3, a4⟩
    refine sw_aload_n (i := 0) dX7_readText_0 rfl rfl ?_
    refine sw_ic 0 dX7_readText_1 ?_
    refine sx_putI fp_X7_128 (by decide) kf_65_10 dX7_readText_2 ?_
    refine sw_aload_n (i := 0) dX7_readText_5 rfl rfl ?_
    refine sw_ic 0 dX7_readText_6 ?_
    refine sx_putI fp_X7_151 (by decide) kf_65_13 dX7_readText_7 ?_
    rw [← hE0]
    refine sw_aload_n (i := 0) dX7_readText_10 rfl rfl ?_
    refine sw_ins (pc2 := 11) rfl rfl ?_
    refine px_Vx mv_X7_154 g3 rfl rfl (Nat.le_of_ble_eq_true rfl) (Nat.le_of_ble_eq_true rfl) ko_65 (Nat.le_of_ble_eq_true rfl) dX7_readText_11 ?_
    refine sw_istore_n (i := 2) dX7_readText_14 rfl (Nat.le_of_ble_eq_true rfl) rfl ?_
    refine sw_lo (lo2 := [some (.ref 65), some (.int _), some (.int _)]) rfl ?_
    exact a1
  · exact absurd hE (roF_E g4).2.2.2
/-- orders in a text without errors -/
theorem ord_ok {f : Nat → Int32} {L p : Nat} (ok : okT f L) (hp : p ≤ L) (hs : rnS f L p = 0) (hE : rnS f L L = 11) : ∃ q, roT f L p q ∧ wfO f L p := by
  have h : RT (fun c j => if c = 70 then f j else if j = 6 then nI L else nI p) f L p := ⟨ok, fun i _ => rfl, rfl, rfl, by have := ok.1; omega⟩
  obtain ⟨d1, q, _, _, ⟨_, h2, h3⟩ | ⟨_, h2⟩⟩ := A_X7_readOrder (r := fun _ _ => none) (J := fun _ _ => 0) h hp hs
  · exact ⟨q, h2, h3.2.1⟩
  · exact absurd hE (roF_E h2).2.2.2
theorem orO_ok {f : Nat → Int32} {L : Nat} (ok : okT f L) (hE : rnS f L L = 11) : ∀ (k p : Nat), (p ≤ L → rnS f L p = 0) → orO f L k p
  | 0, _, _ => trivial
  | k + 1, p, hs => by
    intro hp
    obtain ⟨q, hq, hw⟩ := ord_ok ok (by omega) (hs (by omega)) hE
    refine ⟨hw, orO_ok ok hE k _ ?_⟩
    intro hn
    by_cases c1 : q = L
    · have hx : nxG f L (L - p) p = L := nxG_q _ _ (by omega) (by omega) (Nat.le_refl _) (fun i i1 i2 => hq.2.2.2 i i1 (by omega)) (Or.inl rfl)
      omega
    · have hqL := hq.2.2.1
      have hpq := hq.2.1
      have c2 : sg f L q = 59 := by
        by_cases c : sg f L q = 59
        · exact c
        · exact absurd hE (roE_11 (by omega) hq.1 c).2.2.2
      rw [nxG_q (L - p) p (by omega) (by omega) hqL hq.2.2.2 (Or.inr c2)]
      exact rnS_59 hq.1 c2
