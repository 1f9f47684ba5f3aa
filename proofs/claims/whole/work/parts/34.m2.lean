/-! THE MODEL, 2: home, whoseComes, doCross, give, refuse, drop (own work, written by wip/tools) -/
def allD (V : Nat → Int32) (n : Nat) : Nat → Bool
  | 0 => true
  | i + 1 => allD V n i && decide (n % crc V i = 0)
theorem allD_iff (V : Nat → Int32) (n : Nat) : ∀ k, allD V n k = true ↔ ∀ i, i < k → crc V i ∣ n
  | 0 => ⟨fun _ i h => absurd h (by omega), fun _ => rfl⟩
  | k + 1 => by
    show (allD V n k && decide (n % crc V k = 0)) = true ↔ _
    rw [Bool.and_eq_true, decide_eq_true_eq, allD_iff V n k]
    constructor
    · rintro ⟨h1, h2⟩ i hi
      by_cases e : i = k
      · rw [e]; exact Nat.dvd_of_mod_eq_zero h2
      · exact h1 i (by omega)
    · intro h
      exact ⟨fun i hi => h i (by omega), Nat.mod_eq_zero_of_dvd (h k (by omega))⟩
theorem allD_hm (V : Nat → Int32) (n : Nat) : allD V n 8 = true ↔ hm V ∣ n := (allD_iff V n 8).trans (hmF_dvd n 8).symm
def whG (V : Nat → Int32) (a k : Nat) : Nat → Nat
  | 0 => 0
  | i + 1 => if alg V i k = a then i else whG V a k i
theorem whG_lt (V : Nat → Int32) (a k : Nat) : ∀ i, i ≤ 8 → whG V a k i < 8
  | 0, _ => Nat.zero_lt_succ 7
  | i + 1, h => by
    show (if alg V i k = a then i else whG V a k i) < 8
    by_cases c : alg V i k = a
    · rw [if_pos c]; omega
    · rw [if_neg c]; exact whG_lt V a k i (by omega)
set_option maxRecDepth 100000 in
set_option maxHeartbeats 4000000 in
theorem A_X7_home {d : Nat → Nat → Int32} {r : Nat → Nat → Option Nat} {J : Nat → Nat → Int64} (ok : okPath (mV d)) : OP kX7_home yX7_home 2 [.ref 65] d r J (some (.int (nI (hm (mV d))))) d r J := by
  refine op_of pl_X7_home (Nat.le_of_ble_eq_true rfl) ?_
  have hh := hmF_le ok (k := 8) (Nat.le_refl _)
  have hh1 : 1 ≤ hm (mV d) := hh.1
  have hh2 : hm (mV d) ≤ 840 := hh.2
  have R : ∀ j, j < 840 → SW yX7_home cX7_home 4 (some .int) [] 2 none 4 [some (.ref 65), some (.int (nI (j + 1))), some (.int (bI (allD (mV d) (j + 1) 8))), none] [] 75 (W0 d r J) 0 0 (.inl (some (.int (nI (hm (mV d)))))) 75 (W0 d r J) → SW yX7_home cX7_home 4 (some .int) [] 2 none 4 [some (.ref 65), some (.int (nI j)), some (.int (bI false)), none] [] 75 (W0 d r J) 0 0 (.inl (some (.int (nI (hm (mV d)))))) 75 (W0 d r J) := by
    intro j hj hx
    have L : ∀ i, i ≤ 8 → SW yX7_home cX7_home 4 (some .int) [] 2 none 15 [some (.ref 65), some (.int (nI (j + 1))), some (.int (bI (allD (mV d) (j + 1) i))), some (.int (nI i))] [] 75 (W0 d r J) 0 0 (.inl (some (.int (nI (hm (mV d)))))) 75 (W0 d r J) := by
      refine am_loop 8 ?_ ?_
      ·
        refine sw_iload_n (i := 3) dX7_home_15 rfl rfl ?_
        refine sw_bi 8 dX7_home_16 (by decide +kernel) ?_
        refine sw_ic_ge (tgt := 47) dX7_home_18 rfl (fun _ => ?_) (fun h9 => absurd (nI_le (Nat.le_refl _) (by decide)) h9)
        refine sw_goto (tgt := 4) dX7_home_47 rfl ?_
        refine sw_sub ?_ hx
        exact ⟨rfl, rfl, rfl, trivial⟩
      · intro i hi ih
        have cs := crc_spec ok hi
        have hal : allD (mV d) (j + 1) (i + 1) = (allD (mV d) (j + 1) i && decide ((j + 1) % crc (mV d) i = 0)) := rfl
        have hmd : (j + 1) % crc (mV d) i < crc (mV d) i := Nat.mod_lt _ (by omega)
        cases hb : allD (mV d) (j + 1) i with
        | false =>
          rw [hal, hb, Bool.false_and] at ih
          refine sw_iload_n (i := 3) dX7_home_15 rfl rfl ?_
          refine sw_bi 8 dX7_home_16 (by decide +kernel) ?_
          refine sw_ic_ge (tgt := 47) dX7_home_18 rfl (fun h9 => absurd h9 (nI_ge hi (by decide))) (fun _ => ?_)
          refine sw_iload_n (i := 2) dX7_home_21 rfl rfl ?_
          refine sw_if_eq (tgt := 39) dX7_home_22 rfl (fun _ => ?_) (fun h9 => absurd rfl h9)
          refine sw_ic 0 dX7_home_39 ?_
          refine sw_istore_n (i := 2) dX7_home_40 rfl (Nat.le_of_ble_eq_true rfl) rfl ?_
          refine sw_lo (lo2 := [some (.ref 65), some (.int _), some (.int _), some (.int _)]) rfl ?_
          refine sw_ins (pc2 := 41) rfl rfl ?_
          refine sw_iinc (i := 3) (v := nI (i + 1)) dX7_home_41 rfl (nI_1 _) (Nat.le_of_ble_eq_true rfl) rfl ?_
          refine sw_lo (lo2 := [some (.ref 65), some (.int _), some (.int _), some (.int _)]) rfl ?_
          refine sw_goto (tgt := 15) dX7_home_44 rfl ?_
          exact ih
        | true =>
          by_cases hz : (j + 1) % crc (mV d) i = 0
          · rw [hal, hb, decide_eq_true hz, Bool.true_and] at ih
            refine sw_iload_n (i := 3) dX7_home_15 rfl rfl ?_
            refine sw_bi 8 dX7_home_16 (by decide +kernel) ?_
            refine sw_ic_ge (tgt := 47) dX7_home_18 rfl (fun h9 => absurd h9 (nI_ge hi (by decide))) (fun _ => ?_)
            refine sw_iload_n (i := 2) dX7_home_21 rfl rfl ?_
            refine sw_if_eq (tgt := 39) dX7_home_22 rfl (fun h9 => absurd h9 (by decide)) (fun _ => ?_)
            refine sw_iload_n (i := 1) dX7_home_25 rfl rfl ?_
            refine sw_aload_n (i := 0) dX7_home_26 rfl rfl ?_
            refine sw_ins (pc2 := 27) rfl rfl ?_
            refine sw_iload_n (i := 3) dX7_home_27 rfl rfl ?_
            refine px_Vx mv_X7_70 (A_X7_circle ok hi) rfl rfl (Nat.le_of_ble_eq_true rfl) (Nat.le_of_ble_eq_true rfl) ko_65 (Nat.le_of_ble_eq_true rfl) dX7_home_28 ?_
            refine sw_irem (nI_ne0 (by omega) (by omega)) dX7_home_31 ?_
            refine sw_topE (v := nI ((j + 1) % crc (mV d) i)) (pk_rem (by omega) (by omega) (by omega)) ?_
            refine sw_if_ne (tgt := 39) dX7_home_32 rfl (fun h9 => absurd (by rw [hz]; rfl) h9) (fun _ => ?_)
            refine sw_ic 1 dX7_home_35 ?_
            refine sw_goto (tgt := 40) dX7_home_36 rfl ?_
            refine sw_istore_n (i := 2) dX7_home_40 rfl (Nat.le_of_ble_eq_true rfl) rfl ?_
            refine sw_lo (lo2 := [some (.ref 65), some (.int _), some (.int _), some (.int _)]) rfl ?_
            refine sw_iinc (i := 3) (v := nI (i + 1)) dX7_home_41 rfl (nI_1 _) (Nat.le_of_ble_eq_true rfl) rfl ?_
            refine sw_lo (lo2 := [some (.ref 65), some (.int _), some (.int _), some (.int _)]) rfl ?_
            refine sw_ins (pc2 := 44) rfl rfl ?_
            refine sw_goto (tgt := 15) dX7_home_44 rfl ?_
            exact ih
          · rw [hal, hb, decide_eq_false hz, Bool.and_false] at ih
            refine sw_iload_n (i := 3) dX7_home_15 rfl rfl ?_
            refine sw_bi 8 dX7_home_16 (by decide +kernel) ?_
            refine sw_ic_ge (tgt := 47) dX7_home_18 rfl (fun h9 => absurd h9 (nI_ge hi (by decide))) (fun _ => ?_)
            refine sw_iload_n (i := 2) dX7_home_21 rfl rfl ?_
            refine sw_if_eq (tgt := 39) dX7_home_22 rfl (fun h9 => absurd h9 (by decide)) (fun _ => ?_)
            refine sw_iload_n (i := 1) dX7_home_25 rfl rfl ?_
            refine sw_aload_n (i := 0) dX7_home_26 rfl rfl ?_
            refine sw_ins (pc2 := 27) rfl rfl ?_
            refine sw_iload_n (i := 3) dX7_home_27 rfl rfl ?_
            refine px_Vx mv_X7_70 (A_X7_circle ok hi) rfl rfl (Nat.le_of_ble_eq_true rfl) (Nat.le_of_ble_eq_true rfl) ko_65 (Nat.le_of_ble_eq_true rfl) dX7_home_28 ?_
            refine sw_irem (nI_ne0 (by omega) (by omega)) dX7_home_31 ?_
            refine sw_topE (v := nI ((j + 1) % crc (mV d) i)) (pk_rem (by omega) (by omega) (by omega)) ?_
            refine sw_if_ne (tgt := 39) dX7_home_32 rfl (fun _ => ?_) (fun h9 => absurd h9 (nI_ne0 (by omega) (by omega)))
            refine sw_ic 0 dX7_home_39 ?_
            refine sw_istore_n (i := 2) dX7_home_40 rfl (Nat.le_of_ble_eq_true rfl) rfl ?_
            refine sw_lo (lo2 := [some (.ref 65), some (.int _), some (.int _), some (.int _)]) rfl ?_
            refine sw_iinc (i := 3) (v := nI (i + 1)) dX7_home_41 rfl (nI_1 _) (Nat.le_of_ble_eq_true rfl) rfl ?_
            refine sw_lo (lo2 := [some (.ref 65), some (.int _), some (.int _), some (.int _)]) rfl ?_
            refine sw_goto (tgt := 15) dX7_home_44 rfl ?_
            exact ih
    refine sw_iload_n (i := 2) dX7_home_4 rfl rfl ?_
    refine sw_if_ne (tgt := 50) dX7_home_5 rfl (fun h9 => absurd rfl h9) (fun _ => ?_)
    refine sw_iinc (i := 1) (v := nI (j + 1)) dX7_home_8 rfl (nI_1 _) (Nat.le_of_ble_eq_true rfl) rfl ?_
    refine sw_lo (lo2 := [some (.ref 65), some (.int _), some (.int _), none]) rfl ?_
    refine sw_ic 1 dX7_home_11 ?_
    refine sw_istore_n (i := 2) dX7_home_12 rfl (Nat.le_of_ble_eq_true rfl) rfl ?_
    refine sw_lo (lo2 := [some (.ref 65), some (.int _), some (.int _), none]) rfl ?_
    refine sw_ic 0 dX7_home_13 ?_
    refine sw_istore_n (i := 3) dX7_home_14 rfl (Nat.le_of_ble_eq_true rfl) rfl ?_
    refine sw_lo (lo2 := [some (.ref 65), some (.int _), some (.int _), some (.int _)]) rfl ?_
    exact L 0 (Nat.zero_le _)
  have Q : ∀ j, j ≤ hm (mV d) - 1 → SW yX7_home cX7_home 4 (some .int) [] 2 none 4 [some (.ref 65), some (.int (nI j)), some (.int (bI false)), none] [] 75 (W0 d r J) 0 0 (.inl (some (.int (nI (hm (mV d)))))) 75 (W0 d r J) := by
    refine am_loop (hm (mV d) - 1) ?_ ?_
    · refine R _ (by omega) ?_
      rw [show hm (mV d) - 1 + 1 = hm (mV d) by omega, (allD_hm _ _).mpr (Nat.dvd_refl _)]
      refine sw_iload_n (i := 2) dX7_home_4 rfl rfl ?_
      refine sw_if_ne (tgt := 50) dX7_home_5 rfl (fun _ => ?_) (fun h9 => absurd h9 (by decide))
      refine sw_iload_n (i := 1) dX7_home_50 rfl rfl ?_
      exact sw_ireturn rfl dX7_home_51
    · intro j hj ih
      refine R j (by omega) ?_
      have hf : allD (mV d) (j + 1) 8 = false := by
        cases hb : allD (mV d) (j + 1) 8 with
        | false => rfl
        | true =>
          have := Nat.le_of_dvd (by omega) ((allD_hm _ _).mp hb)
          omega
      rw [hf]
      exact ih
  refine sw_ic 0 dX7_home_0 ?_
  refine sw_istore_n (i := 1) dX7_home_1 rfl (Nat.le_of_ble_eq_true rfl) rfl ?_
  refine sw_lo (lo2 := [some (.ref 65), some (.int _), none, none]) rfl ?_
  refine sw_ic 0 dX7_home_2 ?_
  refine sw_istore_n (i := 2) dX7_home_3 rfl (Nat.le_of_ble_eq_true rfl) rfl ?_
  refine sw_lo (lo2 := [some (.ref 65), some (.int _), some (.int _), none]) rfl ?_
  exact Q 0 (Nat.zero_le _)
set_option maxRecDepth 100000 in
set_option maxHeartbeats 4000000 in
theorem A_X7_whoseComes {d : Nat → Nat → Int32} {r : Nat → Nat → Option Nat} {J : Nat → Nat → Int64} {a k : Nat} (ok : okPath (mV d)) (ha : a < 8) (hk : k < 2 ^ 31) : OP kX7_whoseComes yX7_whoseComes 1 [.ref 65, .int (nI a), .int (nI k)] d r J (some (.int (nI (whG (mV d) a k 8)))) d r J := by
  refine op_of pl_X7_whoseComes (Nat.le_of_ble_eq_true rfl) ?_
  have L : ∀ i, i ≤ 8 → SW yX7_whoseComes cX7_whoseComes 5 (some .int) [] 1 none 5 [some (.ref 65), some (.int (nI a)), some (.int (nI k)), some (.int (nI (whG (mV d) a k i))), some (.int (nI i))] [] 75 (W0 d r J) 0 0 (.inl (some (.int (nI (whG (mV d) a k 8))))) 75 (W0 d r J) := by
    refine am_loop 8 ?_ ?_
    ·
      refine sw_iload (i := 4) dX7_whoseComes_5 rfl ?_
      refine sw_bi 8 dX7_whoseComes_7 (by decide +kernel) ?_
      refine sw_ic_ge (tgt := 36) dX7_whoseComes_9 rfl (fun _ => ?_) (fun h9 => absurd (nI_le (Nat.le_refl _) (by decide)) h9)
      refine sw_iload_n (i := 3) dX7_whoseComes_36 rfl rfl ?_
      exact sw_ireturn rfl dX7_whoseComes_37
    · intro i hi ih
      have hl := alg_lt8 ok hi k
      by_cases c : alg (mV d) i k = a
      · rw [show whG (mV d) a k (i + 1) = i from if_pos c] at ih
        refine sw_iload (i := 4) dX7_whoseComes_5 rfl ?_
        refine sw_bi 8 dX7_whoseComes_7 (by decide +kernel) ?_
        refine sw_ic_ge (tgt := 36) dX7_whoseComes_9 rfl (fun h9 => absurd h9 (nI_ge hi (by decide))) (fun _ => ?_)
        refine sw_aload_n (i := 0) dX7_whoseComes_12 rfl rfl ?_
        refine sw_iload (i := 4) dX7_whoseComes_13 rfl ?_
        refine sw_iload_n (i := 2) dX7_whoseComes_15 rfl rfl ?_
        refine px_Vx mv_X7_67 (A_X7_whereIs ok hi hk) rfl rfl (Nat.le_of_ble_eq_true rfl) (Nat.le_of_ble_eq_true rfl) ko_65 (Nat.le_of_ble_eq_true rfl) dX7_whoseComes_16 ?_
        refine sw_ins (pc2 := 19) rfl rfl ?_
        refine sw_iload_n (i := 1) dX7_whoseComes_19 rfl rfl ?_
        refine sw_ic_ne (tgt := 28) dX7_whoseComes_20 rfl (fun h9 => absurd (by rw [c]) h9) (fun _ => ?_)
        refine sw_iload (i := 4) dX7_whoseComes_23 rfl ?_
        refine sw_goto (tgt := 29) dX7_whoseComes_25 rfl ?_
        refine sw_istore_n (i := 3) dX7_whoseComes_29 rfl (Nat.le_of_ble_eq_true rfl) rfl ?_
        refine sw_lo (lo2 := [some (.ref 65), some (.int _), some (.int _), some (.int _), some (.int _)]) rfl ?_
        refine sw_iinc (i := 4) (v := nI (i + 1)) dX7_whoseComes_30 rfl (nI_1 _) (Nat.le_of_ble_eq_true rfl) rfl ?_
        refine sw_lo (lo2 := [some (.ref 65), some (.int _), some (.int _), some (.int _), some (.int _)]) rfl ?_
        refine sw_goto (tgt := 5) dX7_whoseComes_33 rfl ?_
        exact ih
      · rw [show whG (mV d) a k (i + 1) = whG (mV d) a k i from if_neg c] at ih
        refine sw_iload (i := 4) dX7_whoseComes_5 rfl ?_
        refine sw_bi 8 dX7_whoseComes_7 (by decide +kernel) ?_
        refine sw_ic_ge (tgt := 36) dX7_whoseComes_9 rfl (fun h9 => absurd h9 (nI_ge hi (by decide))) (fun _ => ?_)
        refine sw_aload_n (i := 0) dX7_whoseComes_12 rfl rfl ?_
        refine sw_iload (i := 4) dX7_whoseComes_13 rfl ?_
        refine sw_iload_n (i := 2) dX7_whoseComes_15 rfl rfl ?_
        refine px_Vx mv_X7_67 (A_X7_whereIs ok hi hk) rfl rfl (Nat.le_of_ble_eq_true rfl) (Nat.le_of_ble_eq_true rfl) ko_65 (Nat.le_of_ble_eq_true rfl) dX7_whoseComes_16 ?_
        refine sw_ins (pc2 := 19) rfl rfl ?_
        refine sw_iload_n (i := 1) dX7_whoseComes_19 rfl rfl ?_
        refine sw_ic_ne (tgt := 28) dX7_whoseComes_20 rfl (fun _ => ?_) (fun h9 => absurd h9 (fun q => c ((nI_eq (by omega) (by omega)).mp q)))
        refine sw_iload_n (i := 3) dX7_whoseComes_28 rfl rfl ?_
        refine sw_istore_n (i := 3) dX7_whoseComes_29 rfl (Nat.le_of_ble_eq_true rfl) rfl ?_
        refine sw_lo (lo2 := [some (.ref 65), some (.int _), some (.int _), some (.int _), some (.int _)]) rfl ?_
        refine sw_iinc (i := 4) (v := nI (i + 1)) dX7_whoseComes_30 rfl (nI_1 _) (Nat.le_of_ble_eq_true rfl) rfl ?_
        refine sw_lo (lo2 := [some (.ref 65), some (.int _), some (.int _), some (.int _), some (.int _)]) rfl ?_
        refine sw_goto (tgt := 5) dX7_whoseComes_33 rfl ?_
        exact ih
  refine sw_ic 0 dX7_whoseComes_0 ?_
  refine sw_istore_n (i := 3) dX7_whoseComes_1 rfl (Nat.le_of_ble_eq_true rfl) rfl ?_
  refine sw_lo (lo2 := [some (.ref 65), some (.int _), some (.int _), some (.int _), none]) rfl ?_
  refine sw_ic 0 dX7_whoseComes_2 ?_
  refine sw_istore (i := 4) dX7_whoseComes_3 (Nat.le_of_ble_eq_true rfl) rfl ?_
  refine sw_lo (lo2 := [some (.ref 65), some (.int _), some (.int _), some (.int _), some (.int _)]) rfl ?_
  exact L 0 (Nat.zero_le _)
set_option maxRecDepth 100000 in
set_option maxHeartbeats 4000000 in
theorem A_X7_doCross {d : Nat → Nat → Int32} {r : Nat → Nat → Option Nat} {J : Nat → Nat → Int64} {i o : Nat} (hi : i < 8) (ho : o < 8) : ∃ d1, OP kX7_doCross yX7_doCross 0 [.ref 65, .int (nI i), .int (nI o)] d r J (some (.int (swp (mV d) i o (11 + i)))) d1 r J ∧ mV d1 = swp (mV d) i o ∧ ∀ c, c ≠ 66 → d1 c = d c := by
  have hV : mV (d2 (d2 d 66 (11 + i) (mV d (11 + o))) 66 (11 + o) (mV d (11 + i))) = swp (mV d) i o := by
    rw [mV_d2 _ _ (j := 11 + o) (by omega) rfl, mV_d2 _ _ (j := 11 + i) (by omega) rfl]
    rfl
  refine ⟨d2 (d2 d 66 (11 + i) (mV d (11 + o))) 66 (11 + o) (mV d (11 + i)), op_of pl_X7_doCross (Nat.le_of_ble_eq_true rfl) ?_, hV, fun c hc => by rw [d2_off _ _ hc, d2_off _ _ hc]⟩
  refine sw_aload_n (i := 0) dX7_doCross_0 rfl rfl ?_
  refine sx_getR (q := 66) f_X7_7 (by decide) kr_65_0 dX7_doCross_1 ?_
  refine sw_bi 11 dX7_doCross_4 (by decide +kernel) ?_
  refine sw_iload_n (i := 1) dX7_doCross_6 rfl rfl ?_
  refine sw_iadd dX7_doCross_7 ?_
  refine sx_ialdE (11 + i) (mV d (11 + i)) (mV_in d (by omega) rfl) rfl (by simp only [nI_add, pk_mul]) (by omega) dX7_doCross_8 ?_
  refine sw_istore_n (i := 3) dX7_doCross_9 rfl (Nat.le_of_ble_eq_true rfl) rfl ?_
  refine sw_lo (lo2 := [some (.ref 65), some (.int _), some (.int _), some (.int _)]) rfl ?_
  refine sw_ins (pc2 := 10) rfl rfl ?_
  refine sw_aload_n (i := 0) dX7_doCross_10 rfl rfl ?_
  refine sx_getR (q := 66) f_X7_7 (by decide) kr_65_0 dX7_doCross_11 ?_
  refine sw_bi 11 dX7_doCross_14 (by decide +kernel) ?_
  refine sw_iload_n (i := 1) dX7_doCross_16 rfl rfl ?_
  refine sw_iadd dX7_doCross_17 ?_
  refine sw_aload_n (i := 0) dX7_doCross_18 rfl rfl ?_
  refine sx_getR (q := 66) f_X7_7 (by decide) kr_65_0 dX7_doCross_19 ?_
  refine sw_bi 11 dX7_doCross_22 (by decide +kernel) ?_
  refine sw_ins (pc2 := 24) rfl rfl ?_
  refine sw_iload_n (i := 2) dX7_doCross_24 rfl rfl ?_
  refine sw_iadd dX7_doCross_25 ?_
  refine sx_ialdE (11 + o) (mV d (11 + o)) (mV_in d (by omega) rfl) rfl (by simp only [nI_add, pk_mul]) (by omega) dX7_doCross_26 ?_
  refine sx_iast (11 + i) rfl (by simp only [nI_add, pk_mul]) (by omega) dX7_doCross_27 ?_
  refine sw_aload_n (i := 0) dX7_doCross_28 rfl rfl ?_
  refine sx_getR (q := 66) f_X7_7 (by decide) kr_65_0 dX7_doCross_29 ?_
  refine sw_bi 11 dX7_doCross_32 (by decide +kernel) ?_
  refine sw_iload_n (i := 2) dX7_doCross_34 rfl rfl ?_
  refine sw_ins (pc2 := 35) rfl rfl ?_
  refine sw_iadd dX7_doCross_35 ?_
  refine sw_iload_n (i := 3) dX7_doCross_36 rfl rfl ?_
  refine sx_iast (11 + o) rfl (by simp only [nI_add, pk_mul]) (by omega) dX7_doCross_37 ?_
  refine sw_aload_n (i := 0) dX7_doCross_38 rfl rfl ?_
  refine sx_getR (q := 66) f_X7_7 (by decide) kr_65_0 dX7_doCross_39 ?_
  refine sw_bi 11 dX7_doCross_42 (by decide +kernel) ?_
  refine sw_iload_n (i := 1) dX7_doCross_44 rfl rfl ?_
  refine sw_iadd dX7_doCross_45 ?_
  refine sw_ins (pc2 := 46) rfl rfl ?_
  refine sx_ialdE (11 + i) (swp (mV d) i o (11 + i)) ((mV_in (d2 (d2 d 66 (11 + i) (mV d (11 + o))) 66 (11 + o) (mV d (11 + i))) (by omega) rfl).trans (congrFun hV _)) rfl (by simp only [nI_add, pk_mul]) (by omega) dX7_doCross_46 ?_
  exact sw_ireturn rfl dX7_doCross_47
set_option maxRecDepth 100000 in
set_option maxHeartbeats 4000000 in
theorem A_X7_give {d : Nat → Nat → Int32} {r : Nat → Nat → Option Nat} {J : Nat → Nat → Int64} {f t c : Nat} {x : Int32} (hf : f < 8) (ht : t < 8) (hc : c < 4) : ∃ d1, OP kX7_give yX7_give 0 [.ref 65, .int (nI f), .int (nI t), .int (nI c), .int x] d r J none d1 r J ∧ mV d1 = hnd (mV d) f t c x ∧ ∀ c, c ≠ 66 → d1 c = d c := by
  refine ⟨d2 (d2 d 66 (19 + 4 * f + c) (mV d (19 + (f * 4 + c)) - x)) 66 (19 + 4 * t + c) (upd (mV d) (19 + (f * 4 + c)) (mV d (19 + (f * 4 + c)) - x) (19 + (t * 4 + c)) + x), op_of pl_X7_give (Nat.le_of_ble_eq_true rfl) ?_, ?_, fun c hc => by rw [d2_off _ _ hc, d2_off _ _ hc]⟩
  ·
    refine sw_aload_n (i := 0) dX7_give_0 rfl rfl ?_
    refine sx_getR (q := 66) f_X7_7 (by decide) kr_65_0 dX7_give_1 ?_
    refine sw_bi 19 dX7_give_4 (by decide +kernel) ?_
    refine sw_ic 4 dX7_give_6 ?_
    refine sw_iload_n (i := 1) dX7_give_7 rfl rfl ?_
    refine sw_imul dX7_give_8 ?_
    refine sw_iadd dX7_give_9 ?_
    refine sw_ins (pc2 := 10) rfl rfl ?_
    refine sw_iload_n (i := 3) dX7_give_10 rfl rfl ?_
    refine sw_iadd dX7_give_11 ?_
    refine sw_dup2 dX7_give_12 rfl rfl ?_
    refine sx_ialdE ((19 + (4 * f)) + c) (mV d (19 + (f * 4 + c))) (mV_in d (by omega) (by omega)) rfl (by simp only [nI_add, pk_mul]) (by omega) dX7_give_13 ?_
    refine sw_iload (i := 4) dX7_give_14 rfl ?_
    refine sw_isub dX7_give_16 ?_
    refine sx_iast ((19 + (4 * f)) + c) rfl (by simp only [nI_add, pk_mul]) (by omega) dX7_give_17 ?_
    refine sw_aload_n (i := 0) dX7_give_18 rfl rfl ?_
    refine sw_ins (pc2 := 19) rfl rfl ?_
    refine sx_getR (q := 66) f_X7_7 (by decide) kr_65_0 dX7_give_19 ?_
    refine sw_bi 19 dX7_give_22 (by decide +kernel) ?_
    refine sw_ic 4 dX7_give_24 ?_
    refine sw_iload_n (i := 2) dX7_give_25 rfl rfl ?_
    refine sw_imul dX7_give_26 ?_
    refine sw_iadd dX7_give_27 ?_
    refine sw_iload_n (i := 3) dX7_give_28 rfl rfl ?_
    refine sw_iadd dX7_give_29 ?_
    refine sw_ins (pc2 := 30) rfl rfl ?_
    refine sw_dup2 dX7_give_30 rfl rfl ?_
    refine sx_ialdE ((19 + (4 * t)) + c) (upd (mV d) (19 + (f * 4 + c)) (mV d (19 + (f * 4 + c)) - x) (19 + (t * 4 + c))) ((mV_in (d2 d 66 (19 + 4 * f + c) (mV d (19 + (f * 4 + c)) - x)) (by omega) (by omega)).trans (congrFun (mV_d2 d _ (by omega) (by omega)) _)) rfl (by simp only [nI_add, pk_mul]) (by omega) dX7_give_31 ?_
    refine sw_iload (i := 4) dX7_give_32 rfl ?_
    refine sw_iadd dX7_give_34 ?_
    refine sx_iast ((19 + (4 * t)) + c) rfl (by simp only [nI_add, pk_mul]) (by omega) dX7_give_35 ?_
    exact sw_return rfl dX7_give_36
  · rw [mV_d2 _ _ (j := 19 + (t * 4 + c)) (by omega) (by omega), mV_d2 _ _ (j := 19 + (f * 4 + c)) (by omega) (by omega)]
    rfl
set_option maxRecDepth 100000 in
set_option maxHeartbeats 4000000 in
theorem A_X7_refuse {d : Nat → Nat → Int32} {r : Nat → Nat → Option Nat} {J : Nat → Nat → Int64} {x : Int32} : ∃ d1, OP kX7_refuse yX7_refuse 0 [.ref 65, .int x] d r J (some (.int x)) d1 r J ∧ mV d1 = rfz (mV d) ∧ ∀ c, c ≠ 66 → d1 c = d c := by
  refine ⟨d2 d 66 5 (mV d 5 + nI 1), op_of pl_X7_refuse (Nat.le_of_ble_eq_true rfl) ?_, mV_d2 _ _ (by decide) rfl, fun c hc => d2_off _ _ hc⟩
  refine sw_aload_n (i := 0) dX7_refuse_0 rfl rfl ?_
  refine sx_getR (q := 66) f_X7_7 (by decide) kr_65_0 dX7_refuse_1 ?_
  refine sw_ic 5 dX7_refuse_4 ?_
  refine sw_dup2 dX7_refuse_5 rfl rfl ?_
  refine sx_ialdE (5) (mV d 5) (mV_in d (by decide) rfl) rfl rfl (by omega) dX7_refuse_6 ?_
  refine sw_ic 1 dX7_refuse_7 ?_
  refine sw_iadd dX7_refuse_8 ?_
  refine sw_ins (pc2 := 9) rfl rfl ?_
  refine sx_iast (5) rfl rfl (by omega) dX7_refuse_9 ?_
  refine sw_iload_n (i := 1) dX7_refuse_10 rfl rfl ?_
  exact sw_ireturn rfl dX7_refuse_11
def drG (f : Nat → Int32) (q m i : Nat) : Nat → Int32 := fun j => if j = 1 then nI (m - 1) else if 51 + q * 4 ≤ j ∧ j < i then f (j + 4) else f j
theorem drG_0 (f : Nat → Int32) (q m : Nat) : upd f 1 (nI (m - 1)) = drG f q m (51 + q * 4) := by
  funext j
  unfold drG
  by_cases e : j = 1
  · subst e
    rw [upd_eq, if_pos rfl]
  · rw [upd_ne _ _ e, if_neg e, if_neg (by omega)]
theorem drG_s {f : Nat → Int32} {q m i : Nat} (h : 51 + q * 4 ≤ i) : upd (drG f q m i) i (f (i + 4)) = drG f q m (i + 1) := by
  funext j
  by_cases e : j = i
  · subst e
    rw [upd_eq]
    unfold drG
    rw [if_neg (by omega), if_pos (by omega)]
  · rw [upd_ne _ _ e]
    unfold drG
    by_cases e1 : j = 1
    · rw [if_pos e1, if_pos e1]
    · rw [if_neg e1, if_neg e1]
      by_cases c : 51 + q * 4 ≤ j ∧ j < i
      · rw [if_pos c, if_pos (by omega)]
      · rw [if_neg c, if_neg (by omega)]
theorem drG_at {f : Nat → Int32} {q m i : Nat} (h : 51 + q * 4 ≤ i) : drG f q m i (i + 4) = f (i + 4) := by
  unfold drG
  rw [if_neg (by omega), if_neg (by omega)]
theorem mV_dup (d : Nat → Nat → Int32) (f : Nat → Int32) {j : Nat} (h : j < 83) : mV (dup d 66 f) j = f j := by
  show vM (dup d 66 f) 66 0 j = f j
  rw [← vM_in (dup d 66 f) 66 0 (x := j) h (by omega), dup_eq]
theorem mV_out (d : Nat → Nat → Int32) {j : Nat} (h : 83 ≤ j) : mV d j = 0 := vM_out d 66 0 h
theorem drp_out {V : Nat → Int32} {q j : Nat} (hm : nv V 1 ≤ 8) (h : 83 ≤ j) : drp V q j = V j := by
  unfold drp
  rw [if_neg (by omega), if_neg (by omega)]
set_option maxRecDepth 100000 in
set_option maxHeartbeats 4000000 in
theorem A_X7_drop {d : Nat → Nat → Int32} {r : Nat → Nat → Option Nat} {J : Nat → Nat → Int64} {q : Nat} (ok : okMany (mV d)) (hq : q < nv (mV d) 1) : ∃ d1, OP kX7_drop yX7_drop 0 [.ref 65, .int (nI q)] d r J none d1 r J ∧ mV d1 = drp (mV d) q ∧ ∀ c, c ≠ 66 → d1 c = d c := by
  have hm8 := ok.2
  refine ⟨dup d 66 (drG (d 66) q (nv (mV d) 1) (51 + (nv (mV d) 1 - 1) * 4)), op_of pl_X7_drop (Nat.le_of_ble_eq_true rfl) ?_, ?_, fun c hc => dup_ne _ _ hc⟩
  ·
    have L : ∀ i, i ≤ (nv (mV d) 1 - 1 - q) * 4 → SW yX7_drop cX7_drop 3 none [] 0 none 17 [some (.ref 65), some (.int (nI q)), some (.int (nI (51 + q * 4 + i)))] [] 75 (W0 (dup d 66 (drG (d 66) q (nv (mV d) 1) (51 + q * 4 + i))) r J) 0 0 (.inl none) 75 (W0 (dup d 66 (drG (d 66) q (nv (mV d) 1) (51 + (nv (mV d) 1 - 1) * 4))) r J) := by
      refine am_loop ((nv (mV d) 1 - 1 - q) * 4) ?_ ?_
      · rw [show 51 + q * 4 + (nv (mV d) 1 - 1 - q) * 4 = 51 + (nv (mV d) 1 - 1) * 4 by omega]
        refine sw_iload_n (i := 2) dX7_drop_17 rfl rfl ?_
        refine sw_bi 51 dX7_drop_18 (by decide +kernel) ?_
        refine sw_ic 4 dX7_drop_20 ?_
        refine sw_aload_n (i := 0) dX7_drop_21 rfl rfl ?_
        refine sx_getR (q := 66) f_X7_7 (by decide) kr_65_0 dX7_drop_22 ?_
        refine sw_ic 1 dX7_drop_25 ?_
        refine sx_ialdE (1) (nI (nv (mV d) 1 - 1)) (by rw [dup_eq]; exact if_pos rfl) rfl rfl (by omega) dX7_drop_26 ?_
        refine sw_ins (pc2 := 27) rfl rfl ?_
        refine sw_imul dX7_drop_27 ?_
        refine sw_iadd dX7_drop_28 ?_
        refine sw_topE (v := nI (51 + (nv (mV d) 1 - 1) * 4)) (by rw [pk_mul, nI_add]; congr 1; omega) ?_
        refine sw_ic_ge (tgt := 52) dX7_drop_29 rfl (fun _ => ?_) (fun h9 => absurd (nI_le (Nat.le_refl _) (by omega)) h9)
        exact sw_return rfl dX7_drop_52
      · intro i hi ih
        refine sw_iload_n (i := 2) dX7_drop_17 rfl rfl ?_
        refine sw_bi 51 dX7_drop_18 (by decide +kernel) ?_
        refine sw_ic 4 dX7_drop_20 ?_
        refine sw_aload_n (i := 0) dX7_drop_21 rfl rfl ?_
        refine sx_getR (q := 66) f_X7_7 (by decide) kr_65_0 dX7_drop_22 ?_
        refine sw_ic 1 dX7_drop_25 ?_
        refine sx_ialdE (1) (nI (nv (mV d) 1 - 1)) (by rw [dup_eq]; exact if_pos rfl) rfl rfl (by omega) dX7_drop_26 ?_
        refine sw_ins (pc2 := 27) rfl rfl ?_
        refine sw_imul dX7_drop_27 ?_
        refine sw_iadd dX7_drop_28 ?_
        refine sw_topE (v := nI (51 + (nv (mV d) 1 - 1) * 4)) (by rw [pk_mul, nI_add]; congr 1; omega) ?_
        refine sw_ic_ge (tgt := 52) dX7_drop_29 rfl (fun h9 => absurd h9 (nI_ge (by omega) (by omega))) (fun _ => ?_)
        refine sw_aload_n (i := 0) dX7_drop_32 rfl rfl ?_
        refine sx_getR (q := 66) f_X7_7 (by decide) kr_65_0 dX7_drop_33 ?_
        refine sw_iload_n (i := 2) dX7_drop_36 rfl rfl ?_
        refine sw_aload_n (i := 0) dX7_drop_37 rfl rfl ?_
        refine sx_getR (q := 66) f_X7_7 (by decide) kr_65_0 dX7_drop_38 ?_
        refine sw_ins (pc2 := 41) rfl rfl ?_
        refine sw_iload_n (i := 2) dX7_drop_41 rfl rfl ?_
        refine sw_ic 4 dX7_drop_42 ?_
        refine sw_iadd dX7_drop_43 ?_
        refine sx_ialdE (51 + q * 4 + i + 4) (d 66 (51 + q * 4 + i + 4)) (by rw [dup_eq]; exact drG_at (by omega)) rfl (by simp only [nI_add, pk_mul]) (by omega) dX7_drop_44 ?_
        refine sx_iast (51 + q * 4 + i) rfl rfl (by omega) dX7_drop_45 ?_
        rw [d2_dup, drG_s (by omega)]
        refine sw_iinc (i := 2) (v := nI (51 + q * 4 + i + 1)) dX7_drop_46 rfl (nI_1 _) (Nat.le_of_ble_eq_true rfl) rfl ?_
        refine sw_lo (lo2 := [some (.ref 65), some (.int _), some (.int _)]) rfl ?_
        refine sw_goto (tgt := 17) dX7_drop_49 rfl ?_
        exact ih
    refine sw_aload_n (i := 0) dX7_drop_0 rfl rfl ?_
    refine sx_getR (q := 66) f_X7_7 (by decide) kr_65_0 dX7_drop_1 ?_
    refine sw_ic 1 dX7_drop_4 ?_
    refine sw_dup2 dX7_drop_5 rfl rfl ?_
    refine sx_ialdE (1) (nI (nv (mV d) 1)) ((mV_in d (by decide) rfl).trans ok.1) rfl rfl (by omega) dX7_drop_6 ?_
    refine sw_ic 1 dX7_drop_7 ?_
    refine sw_isub dX7_drop_8 ?_
    refine sw_topE (v := nI (nv (mV d) 1 - 1)) (pk_sub (by omega)) ?_
    refine sw_ins (pc2 := 9) rfl rfl ?_
    refine sx_iast (1) rfl rfl (by omega) dX7_drop_9 ?_
    rw [← d2_upd, drG_0 (d 66) q]
    refine sw_bi 51 dX7_drop_10 (by decide +kernel) ?_
    refine sw_ic 4 dX7_drop_12 ?_
    refine sw_iload_n (i := 1) dX7_drop_13 rfl rfl ?_
    refine sw_imul dX7_drop_14 ?_
    refine sw_iadd dX7_drop_15 ?_
    refine sw_topE (v := nI (51 + q * 4)) (by rw [pk_mul, nI_add]; congr 1; omega) ?_
    refine sw_istore_n (i := 2) dX7_drop_16 rfl (Nat.le_of_ble_eq_true rfl) rfl ?_
    refine sw_lo (lo2 := [some (.ref 65), some (.int _), some (.int _)]) rfl ?_
    exact L 0 (Nat.zero_le _)
  · funext j
    by_cases h83 : 83 ≤ j
    · rw [mV_out _ h83, drp_out ok.2 h83, mV_out _ h83]
    · rw [mV_dup _ _ (by omega)]
      unfold drG drp
      by_cases e1 : j = 1
      · rw [if_pos e1, if_pos e1]
      · rw [if_neg e1, if_neg e1]
        by_cases c : 51 + q * 4 ≤ j ∧ j < 51 + (nv (mV d) 1 - 1) * 4
        · rw [if_pos c, if_pos c]
          exact mV_in d (by omega) rfl
        · rw [if_neg c, if_neg c]
          exact mV_in d (by omega) rfl
