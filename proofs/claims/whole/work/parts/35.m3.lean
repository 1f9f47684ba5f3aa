/-! THE MODEL, 3: doStorm, doPromise (own work, written by wip/tools) -/
def hdG (f g : Nat → Int32) (i : Nat) : Nat → Int32 := fun j => if j < i then f (19 + j) else g j
theorem hdG_0 (f g : Nat → Int32) : hdG f g 0 = g := by
  funext j
  exact if_neg (by omega)
theorem hdG_s (f g : Nat → Int32) (i : Nat) : upd (hdG f g i) i (f (19 + i)) = hdG f g (i + 1) := by
  funext j
  unfold hdG
  by_cases e : j = i
  · subst e
    rw [upd_eq, if_pos (by omega)]
  · rw [upd_ne _ _ e]
    by_cases c : j < i
    · rw [if_pos c, if_pos (by omega)]
    · rw [if_neg c, if_neg (by omega)]
/-- where the cap at a place comes from -/
def srcC (V : Nat → Int32) (j : Nat) : Nat := snd V ((j - 19) / 4) * 4 + (j - 19) % 4
def stG (V f : Nat → Int32) (i : Nat) : Nat → Int32 := fun j => if 19 ≤ j ∧ j < 51 ∧ srcC V j < i then f (19 + srcC V j) else f j
theorem stG_0 (V f : Nat → Int32) : stG V f 0 = f := by
  funext j
  exact if_neg (by omega)
theorem stG_s {V : Nat → Int32} (ok : okPath V) (f : Nat → Int32) {i : Nat} (hi : i < 32) : upd (stG V f i) (19 + 4 * pth V (i / 4) + i % 4) (f (19 + i)) = stG V f (i + 1) := by
  have hp := (ok.1 (i / 4) (by omega)).2
  have hs : snd V (pth V (i / 4)) = i / 4 := ok.2 _ _ (snd_spec ok hp).2 (by omega) (snd_spec ok hp).1
  funext j
  by_cases e : j = 19 + 4 * pth V (i / 4) + i % 4
  · have es : srcC V j = i := by
      unfold srcC
      rw [e, show (19 + 4 * pth V (i / 4) + i % 4 - 19) / 4 = pth V (i / 4) by omega, hs]
      omega
    rw [e, upd_eq, ← e]
    unfold stG
    rw [es, if_pos (by omega)]
  · rw [upd_ne _ _ e]
    unfold stG
    by_cases c : 19 ≤ j ∧ j < 51
    · have hn : srcC V j ≠ i := by
        intro q
        apply e
        unfold srcC at q
        have h1 := snd_spec ok (i := (j - 19) / 4) (by omega)
        have h2 : snd V ((j - 19) / 4) = i / 4 := by omega
        rw [h2] at h1
        rw [h1.1]
        omega
      by_cases c2 : srcC V j < i
      · rw [if_pos ⟨c.1, c.2, c2⟩, if_pos ⟨c.1, c.2, by omega⟩]
      · rw [if_neg (fun q => c2 q.2.2), if_neg (fun q => by have := q.2.2; omega)]
    · rw [if_neg (fun q => c ⟨q.1, q.2.1⟩), if_neg (fun q => c ⟨q.1, q.2.1⟩)]
theorem stG_low (V f : Nat → Int32) {i j : Nat} (h : j < 19) : stG V f i j = f j := if_neg (by omega)
set_option maxRecDepth 100000 in
set_option maxHeartbeats 4000000 in
theorem B_X7_doStorm {r : Nat → Nat → Option Nat} {J : Nat → Nat → Int64} : ∀ (k : Nat) (d : Nat → Nat → Int32) (n : Nat), okMany (mV d) → k ≤ nv (mV d) 1 → ∃ d1, SW yX7_doStorm cX7_doStorm 3 (some .int) [] 1 none 95 [some (.ref 65), some (.int (nI n)), some (.int (pr k))] [] 75 (W0 d r J) 0 0 (.inl (some (.int (nI (brkG k (mV d) n).2)))) 75 (W0 d1 r J) ∧ mV d1 = upd (brkG k (mV d) n).1 4 ((brkG k (mV d) n).1 4 + nI (brkG k (mV d) n).2) ∧ ∀ c, c ≠ 66 → d1 c = d c := by
  intro k
  induction k with
  | zero =>
    intro d n ok hk
    refine ⟨d2 d 66 4 (mV d 4 + nI n), ?_, mV_d2 _ _ (by decide) rfl, fun c hc => d2_off _ _ hc⟩
    refine sw_iload_n (i := 2) dX7_doStorm_95 rfl rfl ?_
    refine sw_if_lt (tgt := 128) dX7_doStorm_96 rfl (fun _ => ?_) (fun h9 => absurd (by decide) h9)
    refine sw_aload_n (i := 0) dX7_doStorm_128 rfl rfl ?_
    refine sx_getR (q := 66) f_X7_7 (by decide) kr_65_0 dX7_doStorm_129 ?_
    refine sw_ic 4 dX7_doStorm_132 ?_
    refine sw_dup2 dX7_doStorm_133 rfl rfl ?_
    refine sx_ialdE (4) (mV d 4) (mV_in d (by decide) rfl) rfl rfl (by omega) dX7_doStorm_134 ?_
    refine sw_ins (pc2 := 135) rfl rfl ?_
    refine sw_iload_n (i := 1) dX7_doStorm_135 rfl rfl ?_
    refine sw_iadd dX7_doStorm_136 ?_
    refine sx_iast (4) rfl rfl (by omega) dX7_doStorm_137 ?_
    refine sw_iload_n (i := 1) dX7_doStorm_138 rfl rfl ?_
    exact sw_ireturn rfl dX7_doStorm_139
  | succ k ih =>
    intro d n ok hk
    have okm := ok.2
    have g0 := A_X7_of (d := d) (r := r) (J := J) (q := k) (c := 3) (by omega) (by decide)
    by_cases hlt : mV d (51 + (k * 4 + 3)) < mV d 0
    · obtain ⟨e1, g1, g2, g3⟩ := A_X7_drop (d := d) (r := r) (J := J) (q := k) ok (by omega)
      have hdm := drp_many ok k
      obtain ⟨d1, f1, f2, f3⟩ := ih e1 (n + 1) (by rw [g2]; exact hdm.1) (by rw [g2, hdm.2]; omega)
      rw [g2] at f1 f2
      rw [brkG_s, if_pos hlt]
      refine ⟨d1, ?_, f2, fun c hc => (f3 c hc).trans (g3 c hc)⟩
      refine sw_iload_n (i := 2) dX7_doStorm_95 rfl rfl ?_
      refine sw_if_lt (tgt := 128) dX7_doStorm_96 rfl (fun h9 => absurd h9 (nI_pos (by omega))) (fun _ => ?_)
      refine sw_aload_n (i := 0) dX7_doStorm_99 rfl rfl ?_
      refine sw_iload_n (i := 2) dX7_doStorm_100 rfl rfl ?_
      refine sw_ic 3 dX7_doStorm_101 ?_
      refine px_Vx mv_X7_61 g0 rfl rfl (Nat.le_of_ble_eq_true rfl) (Nat.le_of_ble_eq_true rfl) ko_65 (Nat.le_of_ble_eq_true rfl) dX7_doStorm_102 ?_
      refine sw_aload_n (i := 0) dX7_doStorm_105 rfl rfl ?_
      refine sw_ins (pc2 := 106) rfl rfl ?_
      refine sx_getR (q := 66) f_X7_7 (by decide) kr_65_0 dX7_doStorm_106 ?_
      refine sw_ic 0 dX7_doStorm_109 ?_
      refine sx_ialdE (0) (mV d 0) (mV_in d (by decide) rfl) rfl rfl (by omega) dX7_doStorm_110 ?_
      refine sw_ic_ge (tgt := 122) dX7_doStorm_111 rfl (fun h9 => absurd h9 (Int32.not_le.mpr hlt)) (fun _ => ?_)
      refine sw_aload_n (i := 0) dX7_doStorm_114 rfl rfl ?_
      refine sw_iload_n (i := 2) dX7_doStorm_115 rfl rfl ?_
      refine px_Vv mv_X7_74 g1 rfl rfl (Nat.le_of_ble_eq_true rfl) (Nat.le_of_ble_eq_true rfl) ko_65 (Nat.le_of_ble_eq_true rfl) dX7_doStorm_116 ?_
      refine sw_iinc (i := 1) (v := nI (n + 1)) dX7_doStorm_119 rfl (nI_1 _) (Nat.le_of_ble_eq_true rfl) rfl ?_
      refine sw_lo (lo2 := [some (.ref 65), some (.int _), some (.int _)]) rfl ?_
      refine sw_iinc (i := 2) (v := pr k) dX7_doStorm_122 rfl (pr_dec k) (Nat.le_of_ble_eq_true rfl) rfl ?_
      refine sw_lo (lo2 := [some (.ref 65), some (.int _), some (.int _)]) rfl ?_
      refine sw_goto (tgt := 95) dX7_doStorm_125 rfl ?_
      exact f1
    · obtain ⟨d1, f1, f2, f3⟩ := ih d n ok (by omega)
      rw [brkG_s, if_neg hlt]
      refine ⟨d1, ?_, f2, f3⟩
      refine sw_iload_n (i := 2) dX7_doStorm_95 rfl rfl ?_
      refine sw_if_lt (tgt := 128) dX7_doStorm_96 rfl (fun h9 => absurd h9 (nI_pos (by omega))) (fun _ => ?_)
      refine sw_aload_n (i := 0) dX7_doStorm_99 rfl rfl ?_
      refine sw_iload_n (i := 2) dX7_doStorm_100 rfl rfl ?_
      refine sw_ic 3 dX7_doStorm_101 ?_
      refine px_Vx mv_X7_61 g0 rfl rfl (Nat.le_of_ble_eq_true rfl) (Nat.le_of_ble_eq_true rfl) ko_65 (Nat.le_of_ble_eq_true rfl) dX7_doStorm_102 ?_
      refine sw_aload_n (i := 0) dX7_doStorm_105 rfl rfl ?_
      refine sw_ins (pc2 := 106) rfl rfl ?_
      refine sx_getR (q := 66) f_X7_7 (by decide) kr_65_0 dX7_doStorm_106 ?_
      refine sw_ic 0 dX7_doStorm_109 ?_
      refine sx_ialdE (0) (mV d 0) (mV_in d (by decide) rfl) rfl rfl (by omega) dX7_doStorm_110 ?_
      refine sw_ic_ge (tgt := 122) dX7_doStorm_111 rfl (fun _ => ?_) (fun h9 => absurd (Int32.not_lt.mp hlt) h9)
      refine sw_iinc (i := 2) (v := pr k) dX7_doStorm_122 rfl (pr_dec k) (Nat.le_of_ble_eq_true rfl) rfl ?_
      refine sw_lo (lo2 := [some (.ref 65), some (.int _), some (.int _)]) rfl ?_
      refine sw_goto (tgt := 95) dX7_doStorm_125 rfl ?_
      exact f1
set_option maxRecDepth 100000 in
set_option maxHeartbeats 4000000 in
theorem A_X7_doStorm {d : Nat → Nat → Int32} {r : Nat → Nat → Option Nat} {J : Nat → Nat → Int64} (okP : okPath (mV d)) (okM : okMany (mV d)) : ∃ d1, OP kX7_doStorm yX7_doStorm 1 [.ref 65] d r J (some (.int (nI (brk (stm (mV d))).2))) d1 r J ∧ mV d1 = brs (stm (mV d)) ∧ ∀ c, c ≠ 66 → c ≠ 72 → d1 c = d c := by
  have okm := okM.2
  obtain ⟨e1, he1⟩ : ∃ e1, e1 = d2 (dup (dup d 72 (hdG (d 66) (d 72) 32)) 66 (stG (mV d) (d 66) 32)) 66 0 (mV d 0 + nI 1) := ⟨_, rfl⟩
  have hV : mV e1 = stm (mV d) := by
    rw [he1, mV_d2 _ _ (j := 0) (by decide) rfl]
    funext j
    by_cases h83 : 83 ≤ j
    · rw [upd_ne _ _ (by omega), mV_out _ h83]
      unfold stm
      rw [if_neg (by omega), if_neg (by omega), mV_out _ h83]
    · by_cases e0 : j = 0
      · subst e0
        rw [upd_eq, stm_day]
      · rw [upd_ne _ _ e0, mV_dup _ _ (by omega)]
        unfold stG stm
        rw [if_neg e0]
        by_cases c : 19 ≤ j ∧ j < 51
        · have h1 := snd_spec okP (i := (j - 19) / 4) (by omega)
          have hl : srcC (mV d) j < 32 := by unfold srcC; omega
          rw [if_pos ⟨c.1, c.2, hl⟩, if_pos c]
          exact mV_in d (by omega) rfl
        · rw [if_neg (fun q => c ⟨q.1, q.2.1⟩), if_neg c]
          exact mV_in d (by omega) rfl
  have hM : okMany (mV e1) := by rw [hV]; exact (stm_many okM).1
  obtain ⟨d1, f1, f2, f3⟩ := B_X7_doStorm (r := r) (J := J) (nv (mV e1) 1) e1 0 hM (Nat.le_refl _)
  rw [hV, (stm_many okM).2] at f1 f2
  refine ⟨d1, op_of pl_X7_doStorm (Nat.le_of_ble_eq_true rfl) ?_, f2, fun c h1 h2 => (f3 c h1).trans (by rw [he1, d2_off _ _ h1, dup_ne _ _ h1, dup_ne _ _ h2])⟩
  have L2 : ∀ i, i ≤ 32 → SW yX7_doStorm cX7_doStorm 3 (some .int) [] 1 none 31 [some (.ref 65), some (.int (nI i)), none] [] 75 (W0 (dup (dup d 72 (hdG (d 66) (d 72) 32)) 66 (stG (mV d) (d 66) i)) r J) 0 0 (.inl (some (.int (nI (brk (stm (mV d))).2)))) 75 (W0 d1 r J) := by
    refine am_loop 32 ?_ ?_
    ·
      refine sw_iload_n (i := 1) dX7_doStorm_31 rfl rfl ?_
      refine sw_bi 32 dX7_doStorm_32 (by decide +kernel) ?_
      refine sw_ic_ge (tgt := 74) dX7_doStorm_34 rfl (fun _ => ?_) (fun h9 => absurd (nI_le (Nat.le_refl _) (by decide)) h9)
      refine sw_aload_n (i := 0) dX7_doStorm_74 rfl rfl ?_
      refine sx_getR (q := 66) f_X7_7 (by decide) kr_65_0 dX7_doStorm_75 ?_
      refine sw_ic 0 dX7_doStorm_78 ?_
      refine sw_dup2 dX7_doStorm_79 rfl rfl ?_
      refine sw_ins (pc2 := 80) rfl rfl ?_
      refine sx_ialdE (0) (mV d 0) (by rw [dup_eq, stG_low _ _ (by decide)]; exact mV_in d (by decide) rfl) rfl rfl (by omega) dX7_doStorm_80 ?_
      refine sw_ic 1 dX7_doStorm_81 ?_
      refine sw_iadd dX7_doStorm_82 ?_
      refine sx_iast (0) rfl rfl (by omega) dX7_doStorm_83 ?_
      rw [← he1]
      refine sw_ic 0 dX7_doStorm_84 ?_
      refine sw_istore_n (i := 1) dX7_doStorm_85 rfl (Nat.le_of_ble_eq_true rfl) rfl ?_
      refine sw_lo (lo2 := [some (.ref 65), some (.int _), none]) rfl ?_
      refine sw_aload_n (i := 0) dX7_doStorm_86 rfl rfl ?_
      refine sx_getR (q := 66) f_X7_7 (by decide) kr_65_0 dX7_doStorm_87 ?_
      refine sw_ins (pc2 := 90) rfl rfl ?_
      refine sw_ic 1 dX7_doStorm_90 ?_
      refine sx_ialdE (1) (nI (nv (mV d) 1)) ((mV_in e1 (by decide) rfl).trans ((congrFun hV 1).trans okM.1)) rfl rfl (by omega) dX7_doStorm_91 ?_
      refine sw_ic 1 dX7_doStorm_92 ?_
      refine sw_isub dX7_doStorm_93 ?_
      refine sw_topE (v := pr (nv (mV d) 1)) (pr_sub _) ?_
      refine sw_istore_n (i := 2) dX7_doStorm_94 rfl (Nat.le_of_ble_eq_true rfl) rfl ?_
      refine sw_lo (lo2 := [some (.ref 65), some (.int _), some (.int _)]) rfl ?_
      exact f1
    · intro i hi ih
      have hp := (okP.1 (i / 4) (by omega)).2
      refine sw_iload_n (i := 1) dX7_doStorm_31 rfl rfl ?_
      refine sw_bi 32 dX7_doStorm_32 (by decide +kernel) ?_
      refine sw_ic_ge (tgt := 74) dX7_doStorm_34 rfl (fun h9 => absurd h9 (nI_ge hi (by decide))) (fun _ => ?_)
      refine sw_aload_n (i := 0) dX7_doStorm_37 rfl rfl ?_
      refine sx_getR (q := 66) f_X7_7 (by decide) kr_65_0 dX7_doStorm_38 ?_
      refine sw_bi 19 dX7_doStorm_41 (by decide +kernel) ?_
      refine sw_ic 4 dX7_doStorm_43 ?_
      refine sw_ins (pc2 := 44) rfl rfl ?_
      refine sw_aload_n (i := 0) dX7_doStorm_44 rfl rfl ?_
      refine sx_getR (q := 66) f_X7_7 (by decide) kr_65_0 dX7_doStorm_45 ?_
      refine sw_bi 11 dX7_doStorm_48 (by decide +kernel) ?_
      refine sw_iload_n (i := 1) dX7_doStorm_50 rfl rfl ?_
      refine sw_ic 4 dX7_doStorm_51 ?_
      refine sw_idiv (by decide) dX7_doStorm_52 ?_
      refine sw_topE (v := nI (i / 4)) (pk_div (by omega) (by decide) (by decide)) ?_
      refine sw_iadd dX7_doStorm_53 ?_
      refine sx_ialdE (11 + i / 4) (nI (pth (mV d) (i / 4))) (by rw [dup_eq, stG_low _ _ (by omega)]; exact (mV_in d (by omega) rfl).trans (okP.1 (i / 4) (by omega)).1) rfl (by simp only [nI_add, pk_mul]) (by omega) dX7_doStorm_54 ?_
      refine sw_ins (pc2 := 55) rfl rfl ?_
      refine sw_imul dX7_doStorm_55 ?_
      refine sw_iadd dX7_doStorm_56 ?_
      refine sw_iload_n (i := 1) dX7_doStorm_57 rfl rfl ?_
      refine sw_ic 4 dX7_doStorm_58 ?_
      refine sw_irem (by decide) dX7_doStorm_59 ?_
      refine sw_topE (v := nI (i % 4)) (pk_rem (by omega) (by decide) (by decide)) ?_
      refine sw_iadd dX7_doStorm_60 ?_
      refine sw_aload_n (i := 0) dX7_doStorm_61 rfl rfl ?_
      refine sx_getR (q := 72) f_X7_29 (by decide) kr_65_9 dX7_doStorm_62 ?_
      refine sw_ins (pc2 := 65) rfl rfl ?_
      refine sw_iload_n (i := 1) dX7_doStorm_65 rfl rfl ?_
      refine sx_ialdE (i) (d 66 (19 + i)) (by rw [dup_ne _ _ (by decide), dup_eq]; exact if_pos hi) rfl rfl (by omega) dX7_doStorm_66 ?_
      refine sx_iast ((19 + (4 * (pth (mV d) (i / 4)))) + (i % 4)) rfl (by simp only [nI_add, pk_mul]) (by omega) dX7_doStorm_67 ?_
      rw [d2_dup, stG_s okP _ hi]
      refine sw_iinc (i := 1) (v := nI (i + 1)) dX7_doStorm_68 rfl (nI_1 _) (Nat.le_of_ble_eq_true rfl) rfl ?_
      refine sw_lo (lo2 := [some (.ref 65), some (.int _), none]) rfl ?_
      refine sw_goto (tgt := 31) dX7_doStorm_71 rfl ?_
      exact ih
  have L1 : ∀ i, i ≤ 32 → SW yX7_doStorm cX7_doStorm 3 (some .int) [] 1 none 2 [some (.ref 65), some (.int (nI i)), none] [] 75 (W0 (dup d 72 (hdG (d 66) (d 72) i)) r J) 0 0 (.inl (some (.int (nI (brk (stm (mV d))).2)))) 75 (W0 d1 r J) := by
    refine am_loop 32 ?_ ?_
    ·
      refine sw_iload_n (i := 1) dX7_doStorm_2 rfl rfl ?_
      refine sw_bi 32 dX7_doStorm_3 (by decide +kernel) ?_
      refine sw_ic_ge (tgt := 29) dX7_doStorm_5 rfl (fun _ => ?_) (fun h9 => absurd (nI_le (Nat.le_refl _) (by decide)) h9)
      refine sw_ic 0 dX7_doStorm_29 ?_
      refine sw_istore_n (i := 1) dX7_doStorm_30 rfl (Nat.le_of_ble_eq_true rfl) rfl ?_
      refine sw_lo (lo2 := [some (.ref 65), some (.int _), none]) rfl ?_
      have L20 := L2 0 (Nat.zero_le _)
      rw [stG_0, show dup (dup d 72 (hdG (d 66) (d 72) 32)) 66 (d 66) = dup d 72 (hdG (d 66) (d 72) 32) from dup_self (dup d 72 (hdG (d 66) (d 72) 32)) 66] at L20
      exact L20
    · intro i hi ih
      refine sw_iload_n (i := 1) dX7_doStorm_2 rfl rfl ?_
      refine sw_bi 32 dX7_doStorm_3 (by decide +kernel) ?_
      refine sw_ic_ge (tgt := 29) dX7_doStorm_5 rfl (fun h9 => absurd h9 (nI_ge hi (by decide))) (fun _ => ?_)
      refine sw_aload_n (i := 0) dX7_doStorm_8 rfl rfl ?_
      refine sx_getR (q := 72) f_X7_29 (by decide) kr_65_9 dX7_doStorm_9 ?_
      refine sw_iload_n (i := 1) dX7_doStorm_12 rfl rfl ?_
      refine sw_aload_n (i := 0) dX7_doStorm_13 rfl rfl ?_
      refine sw_ins (pc2 := 14) rfl rfl ?_
      refine sx_getR (q := 66) f_X7_7 (by decide) kr_65_0 dX7_doStorm_14 ?_
      refine sw_bi 19 dX7_doStorm_17 (by decide +kernel) ?_
      refine sw_iload_n (i := 1) dX7_doStorm_19 rfl rfl ?_
      refine sw_iadd dX7_doStorm_20 ?_
      refine sx_ialdE (19 + i) (d 66 (19 + i)) (by rw [dup_ne _ _ (by decide)]) rfl (by simp only [nI_add, pk_mul]) (by omega) dX7_doStorm_21 ?_
      refine sx_iast (i) rfl rfl (by omega) dX7_doStorm_22 ?_
      rw [d2_dup, hdG_s]
      refine sw_iinc (i := 1) (v := nI (i + 1)) dX7_doStorm_23 rfl (nI_1 _) (Nat.le_of_ble_eq_true rfl) rfl ?_
      refine sw_lo (lo2 := [some (.ref 65), some (.int _), none]) rfl ?_
      refine sw_goto (tgt := 2) dX7_doStorm_26 rfl ?_
      exact ih
  refine sw_ic 0 dX7_doStorm_0 ?_
  refine sw_istore_n (i := 1) dX7_doStorm_1 rfl (Nat.le_of_ble_eq_true rfl) rfl ?_
  refine sw_lo (lo2 := [some (.ref 65), some (.int _), none]) rfl ?_
  have L10 := L1 0 (Nat.zero_le _)
  rw [hdG_0, dup_self] at L10
  exact L10
set_option maxRecDepth 100000 in
set_option maxHeartbeats 4000000 in
theorem A0_X7_doPromise {d : Nat → Nat → Int32} {r : Nat → Nat → Option Nat} {J : Nat → Nat → Int64} {f t s dd : Int32} (ok : okMany (mV d)) (hm : 8 ≤ nv (mV d) 1) : ∃ d1, OP kX7_doPromise yX7_doPromise 1 [.ref 65, .int f, .int t, .int s, .int dd] d r J (some (.int (-1))) d1 r J ∧ mV d1 = rfz (mV d) ∧ ∀ c, c ≠ 66 → d1 c = d c := by
  have hm8 := ok.2
  obtain ⟨d1, g1, g2, g3⟩ := A_X7_refuse (d := d) (r := r) (J := J) (x := -1)
  refine ⟨d1, op_of pl_X7_doPromise (Nat.le_of_ble_eq_true rfl) ?_, g2, g3⟩
  refine sw_aload_n (i := 0) dX7_doPromise_0 rfl rfl ?_
  refine sx_getR (q := 66) f_X7_7 (by decide) kr_65_0 dX7_doPromise_1 ?_
  refine sw_ic 1 dX7_doPromise_4 ?_
  refine sx_ialdE (1) (nI (nv (mV d) 1)) ((mV_in d (by decide) rfl).trans ok.1) rfl rfl (by omega) dX7_doPromise_5 ?_
  refine sw_bi 8 dX7_doPromise_6 (by decide +kernel) ?_
  refine sw_ic_ne (tgt := 17) dX7_doPromise_8 rfl (fun h9 => absurd (by rw [show nv (mV d) 1 = 8 by omega]) h9) (fun _ => ?_)
  refine sw_aload_n (i := 0) dX7_doPromise_11 rfl rfl ?_
  refine sw_ins (pc2 := 12) rfl rfl ?_
  refine sw_im1 dX7_doPromise_12 ?_
  refine px_Vx mv_X7_78 g1 rfl rfl (Nat.le_of_ble_eq_true rfl) (Nat.le_of_ble_eq_true rfl) ko_65 (Nat.le_of_ble_eq_true rfl) dX7_doPromise_13 ?_
  exact sw_ireturn rfl dX7_doPromise_16
set_option maxRecDepth 100000 in
set_option maxHeartbeats 4000000 in
theorem A1_X7_doPromise {d : Nat → Nat → Int32} {r : Nat → Nat → Option Nat} {J : Nat → Nat → Int64} {f t s dd : Int32} (ok : okMany (mV d)) (hm : nv (mV d) 1 < 8) : ∃ d1, OP kX7_doPromise yX7_doPromise 1 [.ref 65, .int f, .int t, .int s, .int dd] d r J (some (.int (nI (nv (mV d) 1)))) d1 r J ∧ mV d1 = mkp (mV d) f t s dd ∧ ∀ c, c ≠ 66 → d1 c = d c := by
  have hm8 := ok.2
  have h0 : (d2 (d2 (d2 (d) 66 (51 + 4 * nv (mV d) 1 + 0) f) 66 (51 + 4 * nv (mV d) 1 + 1) t) 66 (51 + 4 * nv (mV d) 1 + 2) s) 66 0 = mV d 0 := by
    rw [d2_ne _ _ (Or.inr (by omega)), d2_ne _ _ (Or.inr (by omega)), d2_ne _ _ (Or.inr (by omega))]
    exact mV_in d (by decide) rfl
  have h1 : (d2 (d2 (d2 (d2 (d) 66 (51 + 4 * nv (mV d) 1 + 0) f) 66 (51 + 4 * nv (mV d) 1 + 1) t) 66 (51 + 4 * nv (mV d) 1 + 2) s) 66 (51 + 4 * nv (mV d) 1 + 3) (mV d 0 + dd)) 66 1 = nI (nv (mV d) 1) := by
    rw [d2_ne _ _ (Or.inr (by omega)), d2_ne _ _ (Or.inr (by omega)), d2_ne _ _ (Or.inr (by omega)), d2_ne _ _ (Or.inr (by omega))]
    exact (mV_in d (by decide) rfl).trans ok.1
  refine ⟨d2 (d2 (d2 (d2 (d2 (d) 66 (51 + 4 * nv (mV d) 1 + 0) f) 66 (51 + 4 * nv (mV d) 1 + 1) t) 66 (51 + 4 * nv (mV d) 1 + 2) s) 66 (51 + 4 * nv (mV d) 1 + 3) (mV d 0 + dd)) 66 1 (nI (nv (mV d) 1 + 1)), op_of pl_X7_doPromise (Nat.le_of_ble_eq_true rfl) ?_, ?_, fun c hc => by rw [d2_off _ _ hc, d2_off _ _ hc, d2_off _ _ hc, d2_off _ _ hc, d2_off _ _ hc]⟩
  ·
    refine sw_aload_n (i := 0) dX7_doPromise_0 rfl rfl ?_
    refine sx_getR (q := 66) f_X7_7 (by decide) kr_65_0 dX7_doPromise_1 ?_
    refine sw_ic 1 dX7_doPromise_4 ?_
    refine sx_ialdE (1) (nI (nv (mV d) 1)) ((mV_in d (by decide) rfl).trans ok.1) rfl rfl (by omega) dX7_doPromise_5 ?_
    refine sw_bi 8 dX7_doPromise_6 (by decide +kernel) ?_
    refine sw_ic_ne (tgt := 17) dX7_doPromise_8 rfl (fun _ => ?_) (fun h9 => absurd h9 (fun q => by have := (nI_eq (by omega) (by decide)).mp q; omega))
    refine sw_bi 51 dX7_doPromise_17 (by decide +kernel) ?_
    refine sw_ins (pc2 := 19) rfl rfl ?_
    refine sw_ic 4 dX7_doPromise_19 ?_
    refine sw_aload_n (i := 0) dX7_doPromise_20 rfl rfl ?_
    refine sx_getR (q := 66) f_X7_7 (by decide) kr_65_0 dX7_doPromise_21 ?_
    refine sw_ic 1 dX7_doPromise_24 ?_
    refine sx_ialdE (1) (nI (nv (mV d) 1)) ((mV_in d (by decide) rfl).trans ok.1) rfl rfl (by omega) dX7_doPromise_25 ?_
    refine sw_imul dX7_doPromise_26 ?_
    refine sw_iadd dX7_doPromise_27 ?_
    refine sw_topE (v := nI (51 + 4 * nv (mV d) 1)) (by simp only [nI_add, pk_mul]) ?_
    refine sw_istore (i := 5) dX7_doPromise_28 (Nat.le_of_ble_eq_true rfl) rfl ?_
    refine sw_lo (lo2 := [some (.ref 65), some (.int _), some (.int _), some (.int _), some (.int _), some (.int _)]) rfl ?_
    refine sw_ins (pc2 := 30) rfl rfl ?_
    refine sw_aload_n (i := 0) dX7_doPromise_30 rfl rfl ?_
    refine sx_getR (q := 66) f_X7_7 (by decide) kr_65_0 dX7_doPromise_31 ?_
    refine sw_iload (i := 5) dX7_doPromise_34 rfl ?_
    refine sw_ic 0 dX7_doPromise_36 ?_
    refine sw_iadd dX7_doPromise_37 ?_
    refine sw_iload_n (i := 1) dX7_doPromise_38 rfl rfl ?_
    refine sx_iast ((51 + 4 * nv (mV d) 1) + 0) rfl (by simp only [nI_add, pk_mul]) (by omega) dX7_doPromise_39 ?_
    refine sw_aload_n (i := 0) dX7_doPromise_40 rfl rfl ?_
    refine sw_ins (pc2 := 41) rfl rfl ?_
    refine sx_getR (q := 66) f_X7_7 (by decide) kr_65_0 dX7_doPromise_41 ?_
    refine sw_iload (i := 5) dX7_doPromise_44 rfl ?_
    refine sw_ic 1 dX7_doPromise_46 ?_
    refine sw_iadd dX7_doPromise_47 ?_
    refine sw_iload_n (i := 2) dX7_doPromise_48 rfl rfl ?_
    refine sx_iast ((51 + 4 * nv (mV d) 1) + 1) rfl (by simp only [nI_add, pk_mul]) (by omega) dX7_doPromise_49 ?_
    refine sw_aload_n (i := 0) dX7_doPromise_50 rfl rfl ?_
    refine sx_getR (q := 66) f_X7_7 (by decide) kr_65_0 dX7_doPromise_51 ?_
    refine sw_ins (pc2 := 54) rfl rfl ?_
    refine sw_iload (i := 5) dX7_doPromise_54 rfl ?_
    refine sw_ic 2 dX7_doPromise_56 ?_
    refine sw_iadd dX7_doPromise_57 ?_
    refine sw_iload_n (i := 3) dX7_doPromise_58 rfl rfl ?_
    refine sx_iast ((51 + 4 * nv (mV d) 1) + 2) rfl (by simp only [nI_add, pk_mul]) (by omega) dX7_doPromise_59 ?_
    refine sw_aload_n (i := 0) dX7_doPromise_60 rfl rfl ?_
    refine sx_getR (q := 66) f_X7_7 (by decide) kr_65_0 dX7_doPromise_61 ?_
    refine sw_iload (i := 5) dX7_doPromise_64 rfl ?_
    refine sw_ins (pc2 := 66) rfl rfl ?_
    refine sw_ic 3 dX7_doPromise_66 ?_
    refine sw_iadd dX7_doPromise_67 ?_
    refine sw_aload_n (i := 0) dX7_doPromise_68 rfl rfl ?_
    refine sx_getR (q := 66) f_X7_7 (by decide) kr_65_0 dX7_doPromise_69 ?_
    refine sw_ic 0 dX7_doPromise_72 ?_
    refine sx_ialdE (0) (mV d 0) h0 rfl rfl (by omega) dX7_doPromise_73 ?_
    refine sw_iload (i := 4) dX7_doPromise_74 rfl ?_
    refine sw_iadd dX7_doPromise_76 ?_
    refine sw_ins (pc2 := 77) rfl rfl ?_
    refine sx_iast ((51 + 4 * nv (mV d) 1) + 3) rfl (by simp only [nI_add, pk_mul]) (by omega) dX7_doPromise_77 ?_
    refine sw_aload_n (i := 0) dX7_doPromise_78 rfl rfl ?_
    refine sx_getR (q := 66) f_X7_7 (by decide) kr_65_0 dX7_doPromise_79 ?_
    refine sw_ic 1 dX7_doPromise_82 ?_
    refine sw_dup2 dX7_doPromise_83 rfl rfl ?_
    refine sx_ialdE (1) (nI (nv (mV d) 1)) h1 rfl rfl (by omega) dX7_doPromise_84 ?_
    refine sw_ic 1 dX7_doPromise_85 ?_
    refine sw_iadd dX7_doPromise_86 ?_
    refine sw_topE (v := nI (nv (mV d) 1 + 1)) (nI_1 _) ?_
    refine sw_ins (pc2 := 87) rfl rfl ?_
    refine sx_iast (1) rfl rfl (by omega) dX7_doPromise_87 ?_
    refine sw_aload_n (i := 0) dX7_doPromise_88 rfl rfl ?_
    refine sx_getR (q := 66) f_X7_7 (by decide) kr_65_0 dX7_doPromise_89 ?_
    refine sw_ic 1 dX7_doPromise_92 ?_
    refine sx_ialdE (1) (nI (nv (mV d) 1 + 1)) (d2_eq _ _ _ _) rfl rfl (by omega) dX7_doPromise_93 ?_
    refine sw_ic 1 dX7_doPromise_94 ?_
    refine sw_isub dX7_doPromise_95 ?_
    refine sw_topE (v := nI (nv (mV d) 1)) (nI_pred _) ?_
    exact sw_ireturn rfl dX7_doPromise_96
  · rw [mV_d2 _ _ (j := 1) (by decide) rfl, mV_d2 _ _ (j := 51 + (nv (mV d) 1 * 4 + 3)) (by omega) (by omega), mV_d2 _ _ (j := 51 + (nv (mV d) 1 * 4 + 2)) (by omega) (by omega), mV_d2 _ _ (j := 51 + (nv (mV d) 1 * 4 + 1)) (by omega) (by omega), mV_d2 _ _ (j := 51 + (nv (mV d) 1 * 4 + 0)) (by omega) (by omega)]
    rfl
